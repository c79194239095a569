/-! pure: what seen counts; what comb keeps -/
theorem foldl_fst {α : Type} {F : Nat × Nat → α → Nat × Nat} {H : Nat → α → Nat} (h : ∀ acc x, (F acc x).1 = H acc.1 x) : ∀ (xs : List α) (acc : Nat × Nat), (xs.foldl F acc).1 = xs.foldl H acc.1
  | [], acc => rfl
  | x :: xs, acc => by rw [List.foldl_cons, List.foldl_cons, foldl_fst h xs, h]
theorem foldl_snd {α : Type} {F : Nat × Nat → α → Nat × Nat} {H : Nat → α → Nat} (h : ∀ acc x, (F acc x).2 = H acc.2 x) : ∀ (xs : List α) (acc : Nat × Nat), (xs.foldl F acc).2 = xs.foldl H acc.2
  | [], acc => rfl
  | x :: xs, acc => by rw [List.foldl_cons, List.foldl_cons, foldl_snd h xs, h]
theorem mw_rt (n : Nat) (Gl : List Nat) : ∀ (r : Nat) (O : List Nat) (X : List Cr) (P : List Nat), (mwF n Gl r O X).1 = rtF n Gl false r O P
  | 0, O, X, P => by
    rw [mwF, rtF]
    split <;> rfl
  | r + 1, O, X, P => by
    rw [mwF, rtF]
    refine foldl_fst (fun acc p => ?_) _ _
    unfold p2
    dsimp only
    rw [mw_rt n Gl r (swapL O p) (X ++ [crX p 0]) (P ++ [p]), mw_rt n Gl r (swapL O p) (X ++ [crX p 1]) (P ++ [p]), Bool.false_and, if_neg (by decide)]
    omega
theorem mw_bad (n : Nat) (Gl : List Nat) : ∀ (r : Nat) (O : List Nat) (X : List Cr), (X.foldl layL []).length < X.length → (mwF n Gl r O X).2 = 0
  | 0, O, X, h => by
    rw [mwF]
    split
    · dsimp only
      rw [if_neg (by omega)]
    · rfl
  | r + 1, O, X, h => by
    rw [mwF]
    have hb : ∀ p o, ((X ++ [crX p o]).foldl layL []).length < (X ++ [crX p o]).length := by
      intro p o
      rw [List.foldl_append, List.length_append]
      have := layL_len (X.foldl layL []) (crX p o)
      show (layL (X.foldl layL []) (crX p o)).length < X.length + 1
      omega
    have key : ∀ xs : List Nat, (xs.foldl (fun acc p => p2 (p2 acc (mwF n Gl r (swapL O p) (X ++ [crX p 0]))) (mwF n Gl r (swapL O p) (X ++ [crX p 1]))) (0, 0)).2 = xs.foldl (fun (acc _ : Nat) => acc) 0 := by
      intro xs
      refine foldl_snd (fun acc p => ?_) _ _
      unfold p2
      dsimp only
      rw [mw_bad n Gl r _ _ (hb p 0), mw_bad n Gl r _ _ (hb p 1)]
      rfl
    rw [key]
    have : ∀ (xs : List Nat) (z : Nat), xs.foldl (fun (acc _ : Nat) => acc) z = z := by
      intro xs
      induction xs with
      | nil => intro z; rfl
      | cons x xs ih => intro z; exact ih z
    exact this _ _
theorem near_abs (x y : Nat) : near x y = decide (absN x y < 2) := by
  unfold near absN
  by_cases h : x < y
  · rw [if_pos h]; congr 1; apply propext; omega
  · rw [if_neg h]; congr 1; apply propext; omega
theorem wm_none {X : List Cr} {p : Nat} : ∀ j, j ≤ X.length → lnear X p j = none → wmF (X.map (fun c => c.1)) p j = false
  | 0, _, _ => rfl
  | j + 1, hj, h => by
    obtain ⟨c, hc⟩ : ∃ c, X[j]? = some c := ⟨X[j], List.getElem?_eq_getElem (by omega)⟩
    rw [lnear, hc] at h
    dsimp only at h
    have hg : (X.map (fun c => c.1)).getD j 0 = c.1 := by rw [List.getD_eq_getElem?_getD, List.getElem?_map, hc]; rfl
    rw [wmF, hg]
    by_cases hn : near c.1 p = true
    · rw [if_pos hn] at h; cases h
    · rw [if_neg hn] at h
      rw [near_abs] at hn
      rw [if_neg (by simpa using hn)]
      exact wm_none j (by omega) h
theorem wm_some {X : List Cr} {p : Nat} {k : Nat} {c : Cr} (hk : X[k]? = some c) : ∀ j, j ≤ X.length → lnear X p j = some k → wmF (X.map (fun c => c.1)) p j = (c.1 == p)
  | 0, _, h => by rw [lnear] at h; cases h
  | j + 1, hj, h => by
    obtain ⟨c', hc⟩ : ∃ c', X[j]? = some c' := ⟨X[j], List.getElem?_eq_getElem (by omega)⟩
    rw [lnear, hc] at h
    dsimp only at h
    have hg : (X.map (fun c => c.1)).getD j 0 = c'.1 := by rw [List.getD_eq_getElem?_getD, List.getElem?_map, hc]; rfl
    rw [wmF, hg]
    by_cases hn : near c'.1 p = true
    · rw [if_pos hn] at h
      have : j = k := Option.some.inj h
      subst this
      rw [hk] at hc
      cases hc
      rw [near_abs] at hn
      rw [if_pos (of_decide_eq_true hn)]
    · rw [if_neg hn] at h
      rw [near_abs] at hn
      rw [if_neg (by simpa using hn)]
      exact wm_some hk j (by omega) h
theorem mw_good (n : Nat) (Gl : List Nat) : ∀ (r : Nat) (O : List Nat) (X : List Cr), X.foldl layL [] = X → (∀ c ∈ X, c.2.1 ≤ 1) → (mwF n Gl r O X).2 = rtF n Gl true r O (X.map (fun c => c.1))
  | 0, O, X, h, _ => by
    rw [mwF, rtF, h]
    split
    · dsimp only
      rw [if_pos rfl]
    · rfl
  | r + 1, O, X, h, ho => by
    rw [mwF, rtF]
    refine foldl_snd (fun acc p => ?_) _ _
    unfold p2
    dsimp only
    rw [Bool.true_and, List.length_map]
    have hfold : ∀ o, (X ++ [crX p o]).foldl layL [] = layL X (crX p o) := by
      intro o
      rw [List.foldl_append, h]; rfl
    have good : ∀ o, o ≤ 1 → layL X (crX p o) = X ++ [crX p o] → (mwF n Gl r (swapL O p) (X ++ [crX p o])).2 = rtF n Gl true r (swapL O p) (X.map (fun c => c.1) ++ [p]) := by
      intro o ho1 hl
      rw [mw_good n Gl r (swapL O p) (X ++ [crX p o]) (by rw [hfold, hl]) (fun c hc => by
        rcases List.mem_append.mp hc with q | q
        · exact ho c q
        · rw [List.mem_singleton.mp q]; exact ho1), List.map_append]
      rfl
    have bad : ∀ o j, j < X.length → layL X (crX p o) = X.eraseIdx j → (mwF n Gl r (swapL O p) (X ++ [crX p o])).2 = 0 := by
      intro o j hj hl
      refine mw_bad n Gl r _ _ ?_
      rw [hfold, hl, List.length_eraseIdx, if_pos hj, List.length_append]
      omega
    cases hln : lnear X p X.length with
    | none =>
      have hw := wm_none X.length (Nat.le_refl _) hln
      have hl : ∀ o, layL X (crX p o) = X ++ [crX p o] := by
        intro o
        unfold layL
        rw [show (crX p o).1 = p from rfl, hln]
      rw [hw, if_neg (by decide), good 0 (by omega) (hl 0), good 1 (by omega) (hl 1)]
      omega
    | some j =>
      have hj := lnear_lt _ _ hln
      obtain ⟨c', hc'⟩ : ∃ c', X[j]? = some c' := ⟨X[j], List.getElem?_eq_getElem hj⟩
      have hw := wm_some hc' X.length (Nat.le_refl _) hln
      have hl : ∀ o, layL X (crX p o) = if c'.1 = p ∧ c'.2.1 ≠ o then X.eraseIdx j else X ++ [crX p o] := by
        intro o
        unfold layL
        rw [show (crX p o).1 = p from rfl, hln]
        simp only [hc']
        rfl
      have hov := ho c' (List.mem_of_getElem? hc')
      by_cases hp : c'.1 = p
      · rw [hw, if_pos (by rw [hp]; exact beq_self_eq_true p)]
        by_cases h0 : c'.2.1 = 0
        · rw [good 0 (by omega) (by rw [hl, if_neg (fun q => q.2 h0)]), bad 1 j hj (by rw [hl, if_pos ⟨hp, by omega⟩])]
          omega
        · rw [bad 0 j hj (by rw [hl, if_pos ⟨hp, h0⟩]), good 1 (by omega) (by rw [hl, if_neg (fun q => q.2 (by omega))])]
          omega
      · rw [hw, if_neg (by rw [beq_iff_eq]; exact hp)]
        rw [good 0 (by omega) (by rw [hl, if_neg (fun q => hp q.1)]), good 1 (by omega) (by rw [hl, if_neg (fun q => hp q.1)])]
        omega
theorem see_eq (D : Dg) (s : Int32 × List Int32) (x k w : Int32) : sSeeC D s x k w = sSeen D s x k w := by
  unfold sSeeC sSeen
  by_cases h0 : (sRef D s x).toInt = 0
  · simp only [if_neg (show ¬ ¬ (sRef D s x).toInt = 0 from fun q => q h0)]
    by_cases h1 : (0 ≤ k.toInt ∧ k.toInt ≤ 4) ∧ (0 ≤ w.toInt ∧ w.toInt ≤ 1)
    · simp only [if_neg (show ¬ ¬ ((0 ≤ k.toInt ∧ k.toInt ≤ 4) ∧ (0 ≤ w.toInt ∧ w.toInt ≤ 1)) from fun q => q h1)]
      by_cases h2 : w.toInt = 0
      · rw [if_pos h2, mw_rt _ _ _ _ _ [], decide_eq_false (by omega)]
      · rw [if_neg h2, mw_good _ _ _ _ _ rfl (fun c hc => by cases hc), decide_eq_true (by omega)]
        rfl
    · simp only [if_pos (show ¬ ((0 ≤ k.toInt ∧ k.toInt ≤ 4) ∧ (0 ≤ w.toInt ∧ w.toInt ≤ 1)) from h1)]
  · simp only [if_pos (show ¬ (sRef D s x).toInt = 0 from h0)]
-- comb
theorem swapL_get {O : List Nat} {p : Nat} (hp : p + 1 < O.length) (i : Nat) : (swapL O p)[i]? = if i = p then O[p + 1]? else if i = p + 1 then O[p]? else O[i]? := by
  have h1 := getD_at (l := O) (i := p) (by omega)
  have h2 := getD_at (l := O) (i := p + 1) (by omega)
  rw [swapL_eq h1 h2]
  by_cases hi : i = p + 1
  · rw [hi, List.getElem?_set_self (by rw [List.length_set]; omega), if_neg (by omega), if_pos rfl, h1]
  · rw [List.getElem?_set_ne (fun q => hi q.symm)]
    by_cases hi2 : i = p
    · rw [hi2, List.getElem?_set_self (by omega), if_pos rfl, h2]
    · rw [List.getElem?_set_ne (fun q => hi2 q.symm), if_neg hi2, if_neg hi]
theorem swapL_far {O : List Nat} {p q : Nat} (hp : p + 1 < O.length) (hq : q + 1 < O.length) (hf : near q p = false) : swapL (swapL O p) q = swapL (swapL O q) p := by
  have hf2 : ¬ (q < p + 2 ∧ p < q + 2) := of_decide_eq_false hf
  apply List.ext_getElem?
  intro i
  rw [swapL_get (by rw [swapL_len]; exact hq), swapL_get (O := swapL O q) (by rw [swapL_len]; exact hp), swapL_get hp, swapL_get hp, swapL_get hp, swapL_get hq, swapL_get hq, swapL_get hq]
  repeat' split
  all_goals first | rfl | omega
theorem bset_perm {l1 l2 : List Nat} (h : List.Perm l1 l2) : bset l1 = bset l2 := by
  apply Nat.eq_of_testBit_eq
  intro i
  rw [bset_bit, bset_bit]
  congr 1
  exact propext h.mem_iff
theorem crOf_far {O : List Nat} {p q o : Nat} (hp : p + 1 < O.length) (hq : q + 1 < O.length) (hf : near q p = false) : crOf (swapL O p) q o = crOf O q o := by
  have hf2 : ¬ (q < p + 2 ∧ p < q + 2) := of_decide_eq_false hf
  have g1 : (swapL O p).getD q 0 = O.getD q 0 := by rw [List.getD_eq_getElem?_getD, List.getD_eq_getElem?_getD, swapL_get hp, if_neg (by omega), if_neg (by omega)]
  have g2 : (swapL O p).getD (q + 1) 0 = O.getD (q + 1) 0 := by rw [List.getD_eq_getElem?_getD, List.getD_eq_getElem?_getD, swapL_get hp, if_neg (by omega), if_neg (by omega)]
  have g3 : bset ((swapL O p).take q) = bset (O.take q) := by
    by_cases h : q ≤ p
    · congr 1
      apply List.ext_getElem?
      intro i
      rw [List.getElem?_take, List.getElem?_take]
      by_cases hi : i < q
      · rw [if_pos hi, if_pos hi, swapL_get hp, if_neg (by omega), if_neg (by omega)]
      · rw [if_neg hi, if_neg hi]
    · have : (swapL O p).take q = swapL (O.take q) p := by
        apply List.ext_getElem?
        intro i
        have hl : (O.take q).length = q := by rw [List.length_take]; omega
        rw [List.getElem?_take, swapL_get hp, swapL_get (O := O.take q) (by omega), List.getElem?_take, List.getElem?_take, List.getElem?_take, if_pos (show p + 1 < q by omega), if_pos (show p < q by omega)]
        repeat' split
        all_goals first | rfl | omega
      rw [this]
      exact bset_perm (swapL_perm _ _)
  unfold crOf
  rw [g1, g2, g3]
theorem far_rpl {p : Nat} : ∀ (Bq : List Cr) (O : List Nat), p + 1 < O.length → (∀ c ∈ Bq, near c.1 p = false) → rpl (swapL O p) Bq → rpl O Bq ∧ ordE (swapL O p) Bq = swapL (ordE O Bq) p
  | [], O, _, _, _ => ⟨trivial, rfl⟩
  | c :: Bq, O, hp, hf, h => by
    obtain ⟨h1, h2, h3⟩ := h
    rw [swapL_len] at h2
    have hfc := hf c List.mem_cons_self
    rw [crOf_far hp h2 hfc] at h1
    rw [swapL_far hp h2 hfc] at h3
    obtain ⟨g1, g2⟩ := far_rpl Bq (swapL O c.1) (by rw [swapL_len]; exact hp) (fun x hx => hf x (List.mem_cons_of_mem _ hx)) h3
    refine ⟨⟨h1, h2, g1⟩, ?_⟩
    show ordE (swapL (swapL O p) c.1) Bq = swapL (ordE (swapL O c.1) Bq) p
    rw [swapL_far hp h2 hfc]
    exact g2
theorem lnear_spec {L : List Cr} {p j : Nat} : ∀ n, n ≤ L.length → lnear L p n = some j → ∀ i c, j < i → i < n → L[i]? = some c → near c.1 p = false
  | 0, _, h => by rw [lnear] at h; cases h
  | n + 1, hn, h => by
    intro i c hji hin hc
    obtain ⟨c', hc'⟩ : ∃ c', L[n]? = some c' := ⟨L[n], List.getElem?_eq_getElem (by omega)⟩
    rw [lnear, hc'] at h
    dsimp only at h
    by_cases hne : near c'.1 p = true
    · rw [if_pos hne] at h
      have := Option.some.inj h
      omega
    · rw [if_neg hne] at h
      by_cases hi : i = n
      · subst hi
        rw [hc] at hc'
        cases hc'
        simpa using hne
      · exact lnear_spec n (by omega) h i c hji (by omega) hc
theorem lay_rpl {O : List Nat} {T : List Cr} {c : Cr} (h : rpl O T) (hc : c = crOf (ordE O T) c.1 c.2.1) (hl : c.1 + 1 < O.length) : rpl O (layL T c) ∧ ordE O (layL T c) = swapL (ordE O T) c.1 := by
  have app : rpl O (T ++ [c]) ∧ ordE O (T ++ [c]) = swapL (ordE O T) c.1 := by
    refine ⟨(rpl_app _ _ _).mpr ⟨h, hc, by rw [ordE_len]; exact hl, trivial⟩, ?_⟩
    rw [ordE_app]; rfl
  unfold layL
  cases hln : lnear T c.1 T.length with
  | none => exact app
  | some j =>
    have hj := lnear_lt _ _ hln
    obtain ⟨x, hx⟩ : ∃ x, T[j]? = some x := ⟨T[j], List.getElem?_eq_getElem hj⟩
    dsimp only
    rw [hx]
    dsimp only
    by_cases hcond : x.1 = c.1 ∧ x.2.1 ≠ c.2.1
    · rw [if_pos hcond]
      have hsp : T = T.take j ++ (x :: T.drop (j + 1)) := by
        have h1 := (List.take_append_drop j T).symm
        rw [List.drop_eq_getElem_cons hj] at h1
        have h2 : T[j] = x := by
          rw [List.getElem?_eq_getElem hj] at hx
          exact Option.some.inj hx
        rw [h2] at h1
        exact h1
      have her : T.eraseIdx j = T.take j ++ T.drop (j + 1) := List.eraseIdx_eq_take_drop_succ T j
      have hfar : ∀ c2 ∈ T.drop (j + 1), near c2.1 c.1 = false := by
        intro c2 hc2
        obtain ⟨i, hi⟩ := List.getElem?_of_mem hc2
        rw [List.getElem?_drop] at hi
        have := (List.getElem?_eq_some_iff.mp hi).1
        exact lnear_spec T.length (Nat.le_refl _) hln (j + 1 + i) c2 (by omega) this hi
      have h2 := h
      rw [hsp] at h2
      obtain ⟨g1, g2, g3, g4⟩ := (rpl_app _ _ _).mp h2
      rw [hcond.1] at g4
      rw [ordE_len] at g3
      obtain ⟨k1, k2⟩ := far_rpl (T.drop (j + 1)) (ordE O (T.take j)) (by rw [ordE_len]; exact hl) hfar g4
      rw [her]
      refine ⟨(rpl_app _ _ _).mpr ⟨g1, k1⟩, ?_⟩
      have hoT : ordE O T = swapL (ordE (ordE O (T.take j)) (T.drop (j + 1))) c.1 := by
        have e1 : ordE O T = ordE O (T.take j ++ (x :: T.drop (j + 1))) := by rw [← hsp]
        rw [e1, ordE_app, ← k2]
        show ordE (swapL (ordE O (T.take j)) x.1) (T.drop (j + 1)) = _
        rw [hcond.1]
      rw [ordE_app, hoT, swapL_inv]
    · rw [if_neg hcond]; exact app
theorem tan_rpl {O : List Nat} {L : List Cr} (h : rpl O L) : rpl O (tanL L) ∧ ordE O (tanL L) = ordE O L := by
  have key : ∀ k, k ≤ L.length → rpl O ((L.take k).foldl layL []) ∧ ordE O ((L.take k).foldl layL []) = ordE O (L.take k) := by
    intro k
    induction k with
    | zero => intro _; rw [List.take_zero]; exact ⟨trivial, rfl⟩
    | succ k ih =>
      intro hk
      obtain ⟨g1, g2⟩ := ih (by omega)
      obtain ⟨c, hc⟩ : ∃ c, L[k]? = some c := ⟨L[k], List.getElem?_eq_getElem (by omega)⟩
      obtain ⟨r1, r2, r3⟩ := rpl_get h hc
      rw [List.take_succ, hc, List.foldl_append]
      show rpl O (layL ((L.take k).foldl layL []) c) ∧ ordE O (layL ((L.take k).foldl layL []) c) = ordE O (L.take k ++ [c])
      have := lay_rpl g1 (by rw [g2]; exact r1) r2
      refine ⟨this.1, ?_⟩
      rw [this.2, g2, ordE_app]; rfl
  have := key L.length (Nat.le_refl _)
  rw [List.take_length] at this
  exact this
theorem PLI.comb {D : Dg} {O0 : List Nat} {L : List Cr} (h : PLI D O0 L) : PLI D O0 (tanL L) := by
  obtain ⟨h1, h2, h3⟩ := h
  obtain ⟨g1, g2⟩ := tan_rpl h1
  exact ⟨g1, g2.trans h2, fun c hc => h3 c (tanL_sub hc)⟩
