/-! all orders, none left out -/
def tN (cst : List Nat → Nat → Nat) (l : List Nat) : Nat → Nat
  | 0 => 0
  | i + 1 => tN cst l i + cst (l.take i) (l.getD i 0)
def totN (cst : List Nat → Nat → Nat) (l : List Nat) : Nat := tN cst l l.length
theorem tN_app (cst : List Nat → Nat → Nat) (l : List Nat) (x : Nat) : ∀ i, i ≤ l.length → tN cst (l ++ [x]) i = tN cst l i
  | 0, _ => rfl
  | i + 1, h => by
    rw [tN, tN, tN_app cst l x i (by omega), List.take_append_of_le_length (by omega)]
    congr 2
    rw [List.getD_eq_getElem?_getD, List.getD_eq_getElem?_getD, List.getElem?_append_left (by omega)]
theorem totN_snoc (cst : List Nat → Nat → Nat) (l : List Nat) (x : Nat) : totN cst (l ++ [x]) = totN cst l + cst l x := by
  unfold totN
  rw [List.length_append, List.length_singleton, tN, tN_app cst l x _ (Nat.le_refl _)]
  congr 2
  · rw [List.take_append_of_le_length (Nat.le_refl _), List.take_length]
  · rw [List.getD_eq_getElem?_getD, List.getElem?_append_right (Nat.le_refl _), Nat.sub_self]; rfl
def enF (n : Nat) (leaf : List Nat → Nat) : Nat → List Nat → Nat × List Nat → Nat × List Nat
  | 0, l, st => if leaf l < st.1 then (leaf l, l) else st
  | r + 1, l, st => (List.range n).foldl (fun st x => if x ∈ l then st else enF n leaf r (l ++ [x]) st) st
theorem enF_ge (n : Nat) (cst : List Nat → Nat → Nat) : ∀ (r : Nat) (l : List Nat) (st : Nat × List Nat), st.1 ≤ totN cst l → enF n (totN cst) r l st = st
  | 0, l, st, h => by rw [enF, if_neg (by omega)]
  | r + 1, l, st, h => by
    rw [enF]
    have key : ∀ xs : List Nat, xs.foldl (fun st x => if x ∈ l then st else enF n (totN cst) r (l ++ [x]) st) st = st := by
      intro xs
      induction xs with
      | nil => rfl
      | cons x xs ih =>
        rw [List.foldl_cons]
        by_cases hx : x ∈ l
        · rw [if_pos hx]; exact ih
        · rw [if_neg hx, enF_ge n cst r (l ++ [x]) st (by rw [totN_snoc]; omega)]; exact ih
    exact key _
theorem ext_en (n : Nat) (cst : List Nat → Nat → Nat) : ∀ (r : Nat) (l : List Nat) (st : Nat × List Nat), extF n cst r l (totN cst l) st = enF n (totN cst) r l st
  | 0, l, st => by
    rw [extF, enF]
    by_cases h : st.1 ≤ totN cst l
    · rw [if_pos h, if_neg (by omega)]
    · rw [if_neg h, if_pos (by omega)]
  | r + 1, l, st => by
    rw [extF]
    by_cases h : st.1 ≤ totN cst l
    · rw [if_pos h, enF_ge n cst (r + 1) l st h]
    · rw [if_neg h, enF]
      congr 1
      funext st x
      by_cases hx : x ∈ l
      · rw [if_pos hx, if_pos hx]
      · rw [if_neg hx, if_neg hx, ← totN_snoc, ext_en n cst r (l ++ [x]) st]
theorem srF_en0 (n : Nat) (pP : Nat → Nat → Nat → Nat) (eP : Nat → Nat) : srF n pP eP = enF n (totN (cstN n pP eP)) n [] (1000000, []) := by
  unfold srF
  by_cases h : n = 0
  · subst h
    rw [if_pos rfl, enF]
    rfl
  · rw [if_neg h]
    exact ext_en n (cstN n pP eP) n [] (1000000, [])
theorem enF_le (n : Nat) (leaf : List Nat → Nat) : ∀ (r : Nat) (l : List Nat) (st : Nat × List Nat), (enF n leaf r l st).1 ≤ st.1
  | 0, l, st => by
    rw [enF]
    split
    · dsimp only; omega
    · exact Nat.le_refl _
  | r + 1, l, st => by
    rw [enF]
    have key : ∀ (xs : List Nat) (s : Nat × List Nat), (xs.foldl (fun st x => if x ∈ l then st else enF n leaf r (l ++ [x]) st) s).1 ≤ s.1 := by
      intro xs
      induction xs with
      | nil => intro s; exact Nat.le_refl _
      | cons x xs ih =>
        intro s
        rw [List.foldl_cons]
        refine Nat.le_trans (ih _) ?_
        by_cases hx : x ∈ l
        · rw [if_pos hx]; exact Nat.le_refl _
        · rw [if_neg hx]; exact enF_le n leaf r _ _
    exact key _ _
theorem enF_len (n : Nat) (leaf : List Nat → Nat) : ∀ (r : Nat) (l : List Nat) (st : Nat × List Nat), enF n leaf r l st = st ∨ ((enF n leaf r l st).2.length = l.length + r ∧ ∃ l2, (enF n leaf r l st).2 = l2 ∧ (enF n leaf r l st).1 = leaf l2)
  | 0, l, st => by
    rw [enF]
    split
    · exact Or.inr ⟨rfl, l, rfl, rfl⟩
    · exact Or.inl rfl
  | r + 1, l, st => by
    rw [enF]
    have key : ∀ (xs : List Nat) (s : Nat × List Nat), (s = st ∨ (s.2.length = l.length + (r + 1) ∧ ∃ l2, s.2 = l2 ∧ s.1 = leaf l2)) → (xs.foldl (fun st x => if x ∈ l then st else enF n leaf r (l ++ [x]) st) s = st ∨ ((xs.foldl (fun st x => if x ∈ l then st else enF n leaf r (l ++ [x]) st) s).2.length = l.length + (r + 1) ∧ ∃ l2, (xs.foldl (fun st x => if x ∈ l then st else enF n leaf r (l ++ [x]) st) s).2 = l2 ∧ (xs.foldl (fun st x => if x ∈ l then st else enF n leaf r (l ++ [x]) st) s).1 = leaf l2)) := by
      intro xs
      induction xs with
      | nil => intro s h; exact h
      | cons x xs ih =>
        intro s h
        rw [List.foldl_cons]
        apply ih
        by_cases hx : x ∈ l
        · rw [if_pos hx]; exact h
        · rw [if_neg hx]
          rcases enF_len n leaf r (l ++ [x]) s with q | ⟨q1, q2⟩
          · rw [q]; exact h
          · right
            rw [List.length_append, List.length_singleton] at q1
            exact ⟨by omega, q2⟩
    exact key _ _ (Or.inl rfl)
theorem enF_mem (n : Nat) (leaf : List Nat → Nat) (r : Nat) (l : List Nat) (x Mx : Nat) (hx : x ∉ l) (h : ∀ s, (enF n leaf r (l ++ [x]) s).1 ≤ Mx) : ∀ (xs : List Nat) (s : Nat × List Nat), x ∈ xs → (xs.foldl (fun st x => if x ∈ l then st else enF n leaf r (l ++ [x]) st) s).1 ≤ Mx := by
  have mono : ∀ (xs : List Nat) (s : Nat × List Nat), s.1 ≤ Mx → (xs.foldl (fun st x => if x ∈ l then st else enF n leaf r (l ++ [x]) st) s).1 ≤ Mx := by
    intro xs
    induction xs with
    | nil => intro s hs; exact hs
    | cons y xs ih =>
      intro s hs
      rw [List.foldl_cons]
      apply ih
      by_cases hy : y ∈ l
      · rw [if_pos hy]; exact hs
      · rw [if_neg hy]; exact Nat.le_trans (enF_le n leaf r _ _) hs
  intro xs
  induction xs with
  | nil => intro s hm; cases hm
  | cons y xs ih =>
    intro s hm
    rw [List.foldl_cons]
    rcases List.mem_cons.mp hm with q | q
    · subst q
      rw [if_neg hx]
      exact mono xs _ (h s)
    · exact ih _ q
theorem enF_found (n : Nat) (leaf : List Nat → Nat) (Mx : Nat) (hb : leaf (List.range n) ≤ Mx) : ∀ (r k : Nat) (st : Nat × List Nat), k + r = n → (enF n leaf r (List.range k) st).1 ≤ Mx
  | 0, k, st, h => by
    rw [enF]
    rw [show k = n by omega]
    split
    · exact hb
    · omega
  | r + 1, k, st, h => by
    rw [enF]
    refine enF_mem n leaf r (List.range k) k Mx (by rw [List.mem_range]; omega) (fun s => ?_) _ _ (by rw [List.mem_range]; omega)
    rw [← List.range_succ]
    exact enF_found n leaf Mx hb r (k + 1) s (by omega)
/-- two first bounds that both stand above what is found lead to the same -/
theorem enF_top (n : Nat) (leaf : List Nat → Nat) (Mx : Nat) : ∀ (r : Nat) (l : List Nat) (s1 s2 : Nat × List Nat), (s1 = s2 ∨ (Mx < s1.1 ∧ Mx < s2.1)) → (enF n leaf r l s1 = enF n leaf r l s2 ∨ (Mx < (enF n leaf r l s1).1 ∧ Mx < (enF n leaf r l s2).1))
  | 0, l, s1, s2, h => by
    rcases h with h | ⟨h1, h2⟩
    · rw [h]; exact Or.inl rfl
    · rw [enF, enF]
      by_cases q1 : leaf l < s1.1
      · by_cases q2 : leaf l < s2.1
        · rw [if_pos q1, if_pos q2]; exact Or.inl rfl
        · rw [if_pos q1, if_neg q2]; right; exact ⟨by show Mx < leaf l; omega, h2⟩
      · by_cases q2 : leaf l < s2.1
        · rw [if_neg q1, if_pos q2]; right; exact ⟨h1, by show Mx < leaf l; omega⟩
        · rw [if_neg q1, if_neg q2]; exact Or.inr ⟨h1, h2⟩
  | r + 1, l, s1, s2, h => by
    rw [enF, enF]
    have key : ∀ (xs : List Nat) (s1 s2 : Nat × List Nat), (s1 = s2 ∨ (Mx < s1.1 ∧ Mx < s2.1)) → (xs.foldl (fun st x => if x ∈ l then st else enF n leaf r (l ++ [x]) st) s1 = xs.foldl (fun st x => if x ∈ l then st else enF n leaf r (l ++ [x]) st) s2 ∨ (Mx < (xs.foldl (fun st x => if x ∈ l then st else enF n leaf r (l ++ [x]) st) s1).1 ∧ Mx < (xs.foldl (fun st x => if x ∈ l then st else enF n leaf r (l ++ [x]) st) s2).1)) := by
      intro xs
      induction xs with
      | nil => intro s1 s2 h; exact h
      | cons x xs ih =>
        intro s1 s2 h
        rw [List.foldl_cons, List.foldl_cons]
        apply ih
        by_cases hx : x ∈ l
        · rw [if_pos hx, if_pos hx]; exact h
        · rw [if_neg hx, if_neg hx]; exact enF_top n leaf Mx r (l ++ [x]) s1 s2 h
    exact key _ _ _ h
theorem tN_le {cst : List Nat → Nat → Nat} {l : List Nat} {m : Nat} : ∀ i, (∀ j, j < i → cst (l.take j) (l.getD j 0) ≤ m) → tN cst l i ≤ m * i
  | 0, _ => Nat.le_refl _
  | i + 1, h => by
    have h1 := tN_le (cst := cst) (l := l) (m := m) i (fun j hj => h j (by omega))
    have h2 := h i (by omega)
    rw [tN, Nat.mul_succ]
    omega
/-- the first order costs little -/
theorem sr_hT {n : Nat} (hn : n ≤ 6) (pP : Nat → Nat → Nat → Nat) (eP : Nat → Nat) (h1 : ∀ p x y, p + 1 < n → x < n → y < n → pP p x y ≤ 99) (h2 : ∀ x, x < n → eP x ≤ 99) : totN (cstN n pP eP) (List.range n) ≤ 300 * n := by
  unfold totN
  rw [List.length_range]
  refine tN_le n (fun j hj => ?_)
  unfold cstN
  have hg : (List.range n).getD j 0 = j := by
    rw [List.getD_eq_getElem?_getD, List.getElem?_range hj]; rfl
  have hll : ((List.range n).take j).length = j := by rw [List.length_take, List.length_range]; omega
  rw [hg, hll]
  have e1 := h2 j hj
  have q1 : (if (List.range n).take j = [] then eP j else pP (j - 1) (((List.range n).take j).getLastD 0) j) ≤ 99 := by
    split
    · exact e1
    · rename_i hne
      have hj0 : 0 < j := by
        apply Nat.pos_of_ne_zero
        intro q
        subst q
        exact hne (List.take_zero)
      refine h1 _ _ _ (by omega) ?_ hj
      have hmem : ((List.range n).take j).getLastD 0 ∈ (List.range n).take j := by
        rw [List.getLastD_eq_getLast?, List.getLast?_eq_some_getLast hne]
        exact List.getLast_mem hne
      have := List.mem_of_mem_take hmem
      exact List.mem_range.mp this
  have q2 : (if j + 1 = n then eP j else 0) ≤ 99 := by split <;> omega
  omega
/-- what all orders' search has found, from any first bound that stands above it -/
theorem en_found {n : Nat} (hn : n ≤ 6) (pP : Nat → Nat → Nat → Nat) (eP : Nat → Nat) (h1 : ∀ p x y, p + 1 < n → x < n → y < n → pP p x y ≤ 99) (h2 : ∀ x, x < n → eP x ≤ 99) (M0 : Nat) (hM0 : 1800 < M0) : (enF n (totN (cstN n pP eP)) n [] (M0, [])).1 ≤ 1800 ∧ (enF n (totN (cstN n pP eP)) n [] (M0, [])).2.length = n := by
  have hT := sr_hT hn pP eP h1 h2
  have hf := enF_found n (totN (cstN n pP eP)) (300 * n) hT n 0 (M0, []) (by omega)
  rw [List.range_zero] at hf
  refine ⟨by omega, ?_⟩
  rcases enF_len n (totN (cstN n pP eP)) n [] (M0, []) with q | ⟨q1, -⟩
  · rw [q] at hf
    dsimp only at hf
    omega
  · rw [q1]; simp
theorem sr_found {n : Nat} (hn : n ≤ 6) (pP : Nat → Nat → Nat → Nat) (eP : Nat → Nat) (h1 : ∀ p x y, p + 1 < n → x < n → y < n → pP p x y ≤ 99) (h2 : ∀ x, x < n → eP x ≤ 99) : (srF n pP eP).1 ≤ 1800 ∧ (srF n pP eP).2.length = n := by
  rw [srF_en0]
  exact en_found hn pP eP h1 h2 1000000 (by omega)
/-- the class's first bound and the reference's -/
theorem srF_en {n : Nat} (hn : n ≤ 6) (pP : Nat → Nat → Nat → Nat) (eP : Nat → Nat) (h1 : ∀ p x y, p + 1 < n → x < n → y < n → pP p x y ≤ 99) (h2 : ∀ x, x < n → eP x ≤ 99) : srF n pP eP = enF n (totN (cstN n pP eP)) n [] (2147483647, []) := by
  rw [srF_en0]
  have g1 := (en_found hn pP eP h1 h2 1000000 (by omega)).1
  rcases enF_top n (totN (cstN n pP eP)) 1800 n [] (1000000, []) (2147483647, []) (Or.inr ⟨by show 1800 < 1000000; omega, by show 1800 < 2147483647; omega⟩) with q | ⟨q, -⟩
  · exact q
  · omega
/-- what the best order costs, by the texts -/
theorem leaf_odds {D : Dg} (hD : dgOK D) (C : List Int32) (e : Nat → Nat) {l : List Nat} (hl : l.length = D.1.length) (hnd : l.Nodup) (hlt : ∀ x ∈ l, x < D.1.length) : ∀ k, k + 1 ≤ D.1.length → oddsF (dgO D l) C e k = (tN (cstN D.1.length (prB D C e) (fun _ => 0)) l (k + 1) : Nat)
  | 0, h => by
    rw [oddsF, tN, tN]
    unfold cstN
    rw [List.take_zero, if_pos rfl]
    split <;> rfl
  | k + 1, h => by
    have ih := leaf_odds hD C e hl hnd hlt k (by omega)
    have gk := getD_at (l := l) (i := k) (by omega)
    have gk1 := getD_at (l := l) (i := k + 1) (by omega)
    have ix : ∀ i, i < l.length → l.idxOf (l.getD i 0) = i := by
      intro i hi
      have hg := getD_at (l := l) (i := i) hi
      rw [List.getElem?_eq_getElem hi] at hg
      have hg2 := Option.some.inj hg
      rw [← hg2]
      exact List.Nodup.idxOf_getElem hnd i hi
    have hne : l.getD k 0 ≠ l.getD (k + 1) 0 := by
      intro q
      have h1 := ix k (by omega)
      have h2 := ix (k + 1) (by omega)
      rw [q, h2] at h1
      omega
    rw [oddsF, tN, ih]
    have hcst : cstN D.1.length (prB D C e) (fun _ => 0) (l.take (k + 1)) (l.getD (k + 1) 0) = prB D C e k (l.getD k 0) (l.getD (k + 1) 0) := by
      unfold cstN
      have htl : (l.take (k + 1)).length = k + 1 := by rw [List.length_take]; omega
      have hne0 : l.take (k + 1) ≠ [] := by
        intro q
        rw [q] at htl
        simp at htl
      rw [if_neg hne0, htl]
      have hlast : (l.take (k + 1)).getLastD 0 = l.getD k 0 := by
        rw [List.take_succ, gk]
        simp
      rw [hlast]
      split <;> rfl
    rw [hcst]
    have hr := rlI_0 C e (nmF D.1.length D.2.1 (l.getD k 0) (l.getD (k + 1) 0) 1 (nI (if l.getD k 0 < l.getD (k + 1) 0 then k else k + 1))) (part := 0) (by omega)
    have hrh : rhI (dgO D l) C e 0 (l.getD k 0) (l.getD (k + 1) 0) = rlI C e 0 (nmF D.1.length D.2.1 (l.getD k 0) (l.getD (k + 1) 0) 1 (nI (if l.getD k 0 < l.getD (k + 1) 0 then k else k + 1))) := by
      unfold rhI plN
      dsimp only
      rw [ix k (by omega), ix (k + 1) (by omega)]
      have ha : nI (absN k (k + 1)) = 1 := by unfold absN; rw [if_pos (by omega), Nat.add_sub_cancel_left]; rfl
      rw [ha]
      by_cases hlt2 : l.getD k 0 < l.getD (k + 1) 0
      · rw [if_pos hlt2, Nat.min_eq_left (by omega), ix k (by omega)]
      · rw [if_neg hlt2, Nat.min_eq_right (by omega), ix (k + 1) (by omega)]
    have hdg : (dgO D l).2.2.2.2 = l := rfl
    rw [hdg, hrh]
    unfold prB
    omega
