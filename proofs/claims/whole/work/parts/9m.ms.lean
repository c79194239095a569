/-! both sides in one state -/
def MXt (v : Nat → Int32) (f : Nat → Nat → Int32) (X : Nat) (T : List Nat) (tC : Nat → List Int32) (tE : Nat → Nat → Nat) : Prop := X ≤ 6 ∧ v 3 = nI X ∧ v 6 = nI T.length ∧ T.length ≤ 160 ∧ (∀ x ∈ T, x < 256) ∧ Lst T (f 5) ∧ ∀ i, i < X → ∃ B, TB B i f ∧ TX B (tC i) (tE i)
def MXi (v : Nat → Int32) (f : Nat → Nat → Int32) (D D2 : Dg) (r2 : Nat) (L2 : List Cr) (im : Int32) (X : Nat) : Prop := (im = 0 ∧ v 49 = -1) ∨ (im = 1 ∧ MIm v f D2 r2 L2 ∧ (∃ l, D.1 = D2.1 ++ l) ∧ (∃ O2, PLI D2 O2 L2) ∧ r2 < X)
def MXs (v : Nat → Int32) (f : Nat → Nat → Int32) (D : Dg) (r : Nat) (L : List Cr) (D2 : Dg) (r2 : Nat) (L2 : List Cr) (im : Int32) (X : Nat) (T : List Nat) (tC : Nat → List Int32) (tE : Nat → Nat → Nat) (sh : Nat → Int32 × List Int32) : Prop :=
  MD v f D ∧ ML v f L ∧ (∃ O0, PLI D O0 L) ∧ v 4 = nI r ∧ r < X ∧ MXt v f X T tC tE ∧ MXi v f D D2 r2 L2 im X ∧ ∀ i, i < 4 → MSh f i (sh i)
/-- the state of the two objects between two calls -/
def LW (E : GE) (a b : Nat → Nat) (ws : va_W) : Prop := ∃ D r L D2 r2 L2 im X T tC tE sh v t f, CW E a b D r L D2 r2 L2 im X T tC tE sh v t f ws ∧ MXs v f D r L D2 r2 L2 im X T tC tE sh
def PRi (E : GE) (a b : Nat → Nat) (X : GM) (avX : List Value) (Y : GM) (avY : List Value) (ws : va_W) : Prop := (∃ (i : Nat) (fs : List Value), ws[i]? = some (a 0, .inr (6, fs))) ∧ g_Ci E X 1749 avX ws (fun z w => (∃ (i : Nat) (fs : List Value), w[i]? = some (b 0, .inr (7, fs))) ∧ g_Ci E Y 1749 avY w (fun z' w' => z' = z ∧ LW E a b w'))
def PRl (E : GE) (a b : Nat → Nat) (X : GM) (avX : List Value) (Y : GM) (avY : List Value) (ws : va_W) : Prop := (∃ (i : Nat) (fs : List Value), ws[i]? = some (a 0, .inr (6, fs))) ∧ g_Cl E X 1749 avX ws (fun z w => (∃ (i : Nat) (fs : List Value), w[i]? = some (b 0, .inr (7, fs))) ∧ g_Cl E Y 1749 avY w (fun z' w' => z' = z ∧ LW E a b w'))
theorem aL_ag {S : List Nat} {l : List Nat} (q : l.all (fun j => !S.contains j) = true) {k : Nat} (hk : k ∈ l) : S.contains k = false := by
  have := List.all_eq_true.mp q k hk
  simpa using this
section S9m
variable {E : GE} {a b : Nat → Nat} {D D2 D' : Dg} {r r2 r' : Nat} {L L2 L' : List Cr} {im : Int32} {X : Nat} {T : List Nat} {tC : Nat → List Int32} {tE : Nat → Nat → Nat} {sh : Nat → Int32 × List Int32} {v v' : Nat → Int32} {t : Int64} {f f' : Nat → Nat → Int32} {S1 S2 : List Nat} {ws : va_W}
theorem MXt.ag (h : MXt v f X T tC tE) (h1 : agV S1 v v') (h2 : agF S2 f f') (q1 : [3, 6].all (fun j => !S1.contains j) = true) (q2 : [1, 2, 5].all (fun j => !S2.contains j) = true) : MXt v' f' X T tC tE := by
  obtain ⟨m1, m2, m3, m4, m5, m6, m7⟩ := h
  refine ⟨m1, by rw [h1.at 3 (aL_ag q1 (by simp))]; exact m2, by rw [h1.at 6 (aL_ag q1 (by simp))]; exact m3, m4, m5, by rw [h2.at 5 (aL_ag q2 (by simp))]; exact m6, fun i hi => ?_⟩
  obtain ⟨B, hB, hX⟩ := m7 i hi
  exact ⟨B, hB.ag h2 (aL_ag q2 (by simp)) (aL_ag q2 (by simp)), hX⟩
theorem MXi.ag (h : MXi v f D D2 r2 L2 im X) (h1 : agV S1 v v') (h2 : agF S2 f f') (q1 : [49, 50, 51].all (fun j => !S1.contains j) = true) (q2 : [47, 48].all (fun j => !S2.contains j) = true) (hp : ∃ l, D'.1 = D.1 ++ l) : MXi v' f' D' D2 r2 L2 im X := by
  rcases h with ⟨e, h⟩ | ⟨e, h, ⟨l, hl⟩, hO, hr⟩
  · exact Or.inl ⟨e, by rw [h1.at 49 (aL_ag q1 (by simp))]; exact h⟩
  · obtain ⟨l2, hl2⟩ := hp
    exact Or.inr ⟨e, h.ag h1 h2 (aL_ag q1 (by simp)) (aL_ag q1 (by simp)) (aL_ag q1 (by simp)) (aL_ag q2 (by simp)) (aL_ag q2 (by simp)), ⟨l ++ l2, by rw [hl2, hl, List.append_assoc]⟩, hO, hr⟩
theorem MXs.go (h : MXs v f D r L D2 r2 L2 im X T tC tE sh) (h1 : agV S1 v v') (h2 : agF S2 f f') (q1 : [3, 6, 49, 50, 51].all (fun j => !S1.contains j) = true) (q2 : [1, 2, 5, 47, 48, 52, 53, 54, 55].all (fun j => !S2.contains j) = true) (hM : MD v' f' D') (hL : ML v' f' L') (hI : ∃ O, PLI D' O L') (hp : ∃ l, D'.1 = D.1 ++ l) (h4 : v' 4 = nI r') (hr : r' < X) : MXs v' f' D' r' L' D2 r2 L2 im X T tC tE sh := by
  obtain ⟨-, -, -, -, -, m6, m7, m8⟩ := h
  have al : ∀ {S l l2 : List Nat}, l.all (fun j => !S.contains j) = true → (∀ j ∈ l2, j ∈ l) → l2.all (fun j => !S.contains j) = true := fun h hs => List.all_eq_true.mpr (fun j hj => List.all_eq_true.mp h j (hs j hj))
  exact ⟨hM, hL, hI, h4, hr, m6.ag h1 h2 (al q1 (by simp)) (al q2 (by simp)), m7.ag h1 h2 (al q1 (by simp)) (al q2 (by simp)) hp, fun i hi => (m8 i hi).ag h2 (al q2 (by simp))⟩
/-- dogs and plait stay -/
theorem MXs.go1 (h : MXs v f D r L D2 r2 L2 im X T tC tE sh) (h1 : agV S1 v v') (h2 : agF S2 f f') (q1 : [3, 4, 6, 15, 49, 50, 51].all (fun j => !S1.contains j) = true) (q2 : [1, 2, 5, 13, 14, 47, 48, 52, 53, 54, 55].all (fun j => !S2.contains j) = true) (hM : MD v' f' D) : MXs v' f' D r L D2 r2 L2 im X T tC tE sh := by
  have al : ∀ {S l l2 : List Nat}, l.all (fun j => !S.contains j) = true → (∀ j ∈ l2, j ∈ l) → l2.all (fun j => !S.contains j) = true := fun h hs => List.all_eq_true.mpr (fun j hj => List.all_eq_true.mp h j (hs j hj))
  exact h.go h1 h2 (al q1 (by simp)) (al q2 (by simp)) hM (h.2.1.ag h1 h2 (aL_ag q1 (by simp)) (aL_ag q2 (by simp)) (aL_ag q2 (by simp))) h.2.2.1 ⟨[], by rw [List.append_nil]⟩ (by rw [h1.at 4 (aL_ag q1 (by simp))]; exact h.2.2.2.1) h.2.2.2.2.1
theorem MXs.go0 (h : MXs v f D r L D2 r2 L2 im X T tC tE sh) (h1 : agV S1 v v') (h2 : agF S2 f f') (q1 : [3, 4, 6, 12, 15, 49, 50, 51].all (fun j => !S1.contains j) = true) (q2 : [1, 2, 5, 7, 8, 9, 10, 11, 13, 14, 47, 48, 52, 53, 54, 55].all (fun j => !S2.contains j) = true) : MXs v' f' D r L D2 r2 L2 im X T tC tE sh := by
  have al : ∀ {S l l2 : List Nat}, l.all (fun j => !S.contains j) = true → (∀ j ∈ l2, j ∈ l) → l2.all (fun j => !S.contains j) = true := fun h hs => List.all_eq_true.mpr (fun j hj => List.all_eq_true.mp h j (hs j hj))
  exact h.go1 h1 h2 (al q1 (by simp)) (al q2 (by simp)) (h.1.ag h1 h2 (aL_ag q1 (by simp)) (al q2 (by simp)))
theorem MXs.rule (h : MXs v f D r L D2 r2 L2 im X T tC tE sh) : r < 6 ∧ txtOK (tC r) (tE r) ∧ ∃ B, TB B r f ∧ TX B (tC r) (tE r) := by
  obtain ⟨-, -, -, -, hr, ⟨m1, -, -, -, -, -, m7⟩, -⟩ := h
  obtain ⟨B, hB, hX⟩ := m7 r hr
  exact ⟨by omega, hX.ok, B, hB, hX⟩
theorem u_eq {α : Type} {x : α} : ∀ z z' : α, z = x → z' = x → z' = z := fun _ _ h1 h2 => h2.trans h1.symm
theorem u_int {x : Int} : ∀ z z' : Int32, z.toInt = x → z'.toInt = x → z' = z := fun _ _ h1 h2 => Int32.toInt_inj.mp (h2.trans h1.symm)
variable {D2' : Dg} {r2' : Nat} {L2' : List Cr} {im' : Int32} {X' : Nat} {T' : List Nat} {tC' : Nat → List Int32} {tE' : Nat → Nat → Nat} {sh' : Nat → Int32 × List Int32} {Xm Ym : GM} {avX avY : List Value}
theorem PR.mk {P : Int32 → Prop} (h : CW E a b D r L D2 r2 L2 im X T tC tE sh v t f ws) (hX : g_Ci E Xm 1749 avX ws (fun z w => P z ∧ CW E a b D' r' L' D2' r2' L2' im' X' T' tC' tE' sh' v t f w)) (hY : g_Ci E Ym 1749 avY (mW E b v t f) (fun z w => P z ∧ ∃ v' t' f', w = mW E b v' t' f' ∧ MXs v' f' D' r' L' D2' r2' L2' im' X' T' tC' tE' sh')) (hu : ∀ z z', P z → P z' → z' = z) : PRi E a b Xm avX Ym avY ws := by
  refine ⟨h.rA, hX.post (fun z w hq => ?_)⟩
  obtain ⟨hz, hW⟩ := hq
  refine ⟨hW.rB, (hW.ml hY).post (fun z' w' hq => ?_)⟩
  obtain ⟨w1, ⟨hz', v', t', f', e, hM⟩, hW'⟩ := hq
  exact ⟨hu _ _ hz hz', _, _, _, _, _, _, _, _, _, _, _, _, _, _, _, hW' _ _ _ e, hM⟩
theorem PR.mkL {P : Int64 → Prop} (h : CW E a b D r L D2 r2 L2 im X T tC tE sh v t f ws) (hX : g_Cl E Xm 1749 avX ws (fun z w => P z ∧ CW E a b D' r' L' D2' r2' L2' im' X' T' tC' tE' sh' v t f w)) (hY : g_Cl E Ym 1749 avY (mW E b v t f) (fun z w => P z ∧ ∃ v' t' f', w = mW E b v' t' f' ∧ MXs v' f' D' r' L' D2' r2' L2' im' X' T' tC' tE' sh')) (hu : ∀ z z', P z → P z' → z' = z) : PRl E a b Xm avX Ym avY ws := by
  refine ⟨h.rA, hX.post (fun z w hq => ?_)⟩
  obtain ⟨hz, hW⟩ := hq
  refine ⟨hW.rB, (hW.mlL hY).post (fun z' w' hq => ?_)⟩
  obtain ⟨w1, ⟨hz', v', t', f', e, hM⟩, hW'⟩ := hq
  exact ⟨hu _ _ hz hz', _, _, _, _, _, _, _, _, _, _, _, _, _, _, _, hW' _ _ _ e, hM⟩
end S9m
/-! the plait's own -/
theorem sCross_pli {D : Dg} {L : List Cr} (hD : dgOK D) (p o : Int32) (h : ∃ O, PLI D O L) : ∃ O, PLI (sCross D L p o).2.1 O (sCross D L p o).2.2 := by
  obtain ⟨O, hI⟩ := h
  unfold sCross
  split
  · exact ⟨O, hI⟩
  · split
    · exact ⟨O, hI⟩
    · rename_i h1 h2
      obtain ⟨k1, k2⟩ := Decidable.not_not.mp h1
      have hl := (hI.ord hD 0).2.2
      have hO : O.length = D.1.length := by rw [List.take_zero] at hl; exact hl
      refine ⟨O, ?_, ?_, ?_⟩
      · dsimp only
        refine (rpl_app _ _ _).mpr ⟨hI.1, ?_, ?_, trivial⟩
        · rw [hI.2.1]; rfl
        · rw [ordE_len]
          show p.toInt.toNat + 1 < O.length
          omega
      · dsimp only
        rw [ordE_app, hI.2.1]; rfl
      · intro c hc
        rcases List.mem_append.mp hc with q | q
        · exact hI.2.2 c q
        · rw [List.mem_singleton.mp q]
          show o.toInt.toNat ≤ 1
          omega
theorem sCross_kd {D : Dg} {L : List Cr} (p o : Int32) : (sCross D L p o).2.1.1 = D.1 := by
  unfold sCross
  split
  · rfl
  · split <;> rfl
theorem xsF_pli {V : List Int32} {f : Int32} : ∀ (t i : Nat) (c : Int32) (D : Dg) (L : List Cr), dgOK D → L.length ≤ 40 → (∃ O, PLI D O L) → (∃ O, PLI (xsF V f t i c D L).2.1 O (xsF V f t i c D L).2.2) ∧ (xsF V f t i c D L).2.1.1 = D.1
  | 0, _, _, D, L, _, _, h => ⟨h, rfl⟩
  | t + 1, i, c, D, L, hD, hL, h => by
    rw [xsF]
    split
    · have k := sCross_ok hD hL (V.getD (f + 2 * nI i).toInt.toNat 0) (V.getD (f + 2 * nI i + 1).toInt.toNat 0)
      have := xsF_pli (V := V) (f := f) t (i + 1) (if 0 < (sCross D L (V.getD (f + 2 * nI i).toInt.toNat 0) (V.getD (f + 2 * nI i + 1).toInt.toNat 0)).1.toInt then c + 1 else c) _ _ k.1 k.2 (sCross_pli hD _ _ h)
      exact ⟨this.1, this.2.trans (sCross_kd _ _)⟩
    · exact ⟨h, rfl⟩
theorem sXs_pli {D : Dg} {L : List Cr} {s : Int32 × List Int32} (hD : dgOK D) (hL : L.length ≤ 40) (h : ∃ O, PLI D O L) (x so f m : Int32) : (∃ O, PLI (sXs D L s x so f m).2.1 O (sXs D L s x so f m).2.2) ∧ (sXs D L s x so f m).2.1.1 = D.1 := by
  unfold sXs
  split
  · exact ⟨h, rfl⟩
  · split
    · exact ⟨h, rfl⟩
    · split
      · exact ⟨h, rfl⟩
      · exact xsF_pli _ _ _ _ _ hD hL h
theorem sUndo_pli {D : Dg} {L : List Cr} (hD : dgOK D) (h : ∃ O, PLI D O L) : (∃ O, PLI (sUndo D L).2.1 O (sUndo D L).2.2) ∧ (sUndo D L).2.1.1 = D.1 := by
  obtain ⟨O, hI⟩ := h
  unfold sUndo
  cases hg : L.getLast? with
  | none => exact ⟨⟨O, hI⟩, rfl⟩
  | some c =>
    refine ⟨⟨O, ?_⟩, rfl⟩
    have hL : L = L.dropLast ++ [c] := by
      rw [List.getLast?_eq_some_iff] at hg
      obtain ⟨ys, rfl⟩ := hg
      rw [List.dropLast_concat]
    obtain ⟨q1, q2, q3⟩ := hI
    have q1' := q1
    have q2' := q2
    rw [hL] at q1 q2
    refine ⟨((rpl_app _ _ _).mp q1).1, ?_, fun x hx => q3 x (List.dropLast_subset _ hx)⟩
    rw [ordE_app] at q2
    have q4 : swapL (ordE O L.dropLast) c.1 = D.2.2.2.2 := q2
    show ordE O L.dropLast = swapL D.2.2.2.2 c.1
    rw [← q4, swapL_inv]
theorem sDog_pli {D : Dg} {L : List Cr} (x y z : Int32) (h : ∃ O, PLI D O L) : (∃ O, PLI (sDog D L.length x y z).2 O L) ∧ ∃ l, (sDog D L.length x y z).2.1 = D.1 ++ l := by
  unfold sDog
  split
  · exact ⟨h, [], (List.append_nil _).symm⟩
  · split
    · exact ⟨h, [], (List.append_nil _).symm⟩
    · split
      · exact ⟨h, [], (List.append_nil _).symm⟩
      · rename_i h1 h2 h3
        have : L = [] := List.eq_nil_of_length_eq_zero (by omega)
        subst this
        exact ⟨⟨_, trivial, rfl, fun c hc => absurd hc List.not_mem_nil⟩, _, rfl⟩
theorem sSet_pli {D : Dg} {L : List Cr} (x y z : Int32) (h : ∃ O, PLI D O L) : (∃ O, PLI (sSet D x y z).2 O L) ∧ (sSet D x y z).2.1 = D.1 := by
  unfold sSet
  repeat' split
  all_goals exact ⟨h, rfl⟩
theorem shN_at (x : Int32) : ∃ i, i < 4 ∧ shN x i := by
  by_cases h : 0 ≤ x.toInt ∧ x.toInt ≤ 3
  · exact ⟨x.toInt.toNat, by omega, fun _ => rfl⟩
  · exact ⟨0, by omega, fun q => absurd q h⟩
