/-! a plait from the order ahead of it -/
theorem swapL_s (z : Nat) (l : List Nat) (p : Nat) : swapL (z :: l) (p + 1) = z :: swapL l p := by
  unfold swapL
  simp only [List.getElem?_cons_succ]
  split <;> simp
theorem swapL_0 (x y : Nat) (l : List Nat) : swapL (x :: y :: l) 0 = y :: x :: l := by
  unfold swapL; simp
theorem swapL_inv : ∀ (l : List Nat) (p : Nat), swapL (swapL l p) p = l
  | [], p => by unfold swapL; simp
  | [z], p => by
    have : swapL [z] p = [z] := by unfold swapL; simp
    rw [this, this]
  | x :: y :: l, 0 => by rw [swapL_0, swapL_0]
  | x :: y :: l, p + 1 => by rw [swapL_s, swapL_s, swapL_inv (y :: l) p]
def rpl : List Nat → List Cr → Prop
  | _, [] => True
  | O, c :: L => c = crOf O c.1 c.2.1 ∧ c.1 + 1 < O.length ∧ rpl (swapL O c.1) L
def ordE (O : List Nat) (L : List Cr) : List Nat := L.foldl (fun O c => swapL O c.1) O
theorem ordE_len : ∀ (L : List Cr) (O : List Nat), (ordE O L).length = O.length
  | [], O => rfl
  | c :: L, O => by
    have := ordE_len L (swapL O c.1)
    rw [swapL_len] at this
    exact this
theorem ordE_perm : ∀ (L : List Cr) (O : List Nat), List.Perm (ordE O L) O
  | [], O => List.Perm.refl O
  | c :: L, O => (ordE_perm L (swapL O c.1)).trans (swapL_perm O c.1)
theorem ordE_app (O : List Nat) (L L2 : List Cr) : ordE O (L ++ L2) = ordE (ordE O L) L2 := List.foldl_append
theorem rpl_app : ∀ (L L2 : List Cr) (O : List Nat), rpl O (L ++ L2) ↔ rpl O L ∧ rpl (ordE O L) L2
  | [], L2, O => ⟨fun h => ⟨trivial, h⟩, fun h => h.2⟩
  | c :: L, L2, O => by
    have := rpl_app L L2 (swapL O c.1)
    constructor
    · intro h
      obtain ⟨h1, h2, h3⟩ := h
      have h4 := this.mp h3
      exact ⟨⟨h1, h2, h4.1⟩, h4.2⟩
    · intro h
      obtain ⟨⟨h1, h2, h3⟩, h4⟩ := h
      exact ⟨h1, h2, this.mpr ⟨h3, h4⟩⟩
theorem rpl_get {L : List Cr} {O : List Nat} (h : rpl O L) {k : Nat} {c : Cr} (hk : L[k]? = some c) : c = crOf (ordE O (L.take k)) c.1 c.2.1 ∧ c.1 + 1 < O.length ∧ ordE O (L.take (k + 1)) = swapL (ordE O (L.take k)) c.1 := by
  have hlt := (List.getElem?_eq_some_iff.mp hk).1
  have hts : L.take (k + 1) = L.take k ++ [c] := by rw [List.take_succ, hk]; rfl
  have hL : L = L.take (k + 1) ++ L.drop (k + 1) := (List.take_append_drop _ _).symm
  rw [hL, hts] at h
  have h1 := ((rpl_app _ _ _).mp ((rpl_app _ _ _).mp h).1).2
  obtain ⟨h2, h3, -⟩ := h1
  rw [ordE_len] at h3
  refine ⟨h2, h3, ?_⟩
  rw [hts, ordE_app]; rfl
theorem nodup_take : ∀ (l : List Nat) (q x : Nat), l.Nodup → l[q]? = some x → x ∉ l.take q
  | [], q, x, _, h => by simp at h
  | z :: l, 0, x, _, _ => by simp
  | z :: l, q + 1, x, hn, h => by
    rw [List.getElem?_cons_succ] at h
    have hn2 := List.nodup_cons.mp hn
    rw [List.take_succ_cons]
    intro hm
    rcases List.mem_cons.mp hm with r | r
    · exact hn2.1 (r ▸ List.mem_of_getElem? h)
    · exact nodup_take l q x hn2.2 h r
theorem bitN_or : ∀ m, m < 64 → ∀ x, x < 6 → m.testBit x = false → bitN (m ||| 1 <<< x) = bitN m + 1 := by decide +kernel
theorem msk_out : ∀ s, s < 64 → ∀ x, x < 6 → s.testBit x = true → (1 <<< x) &&& (63 ^^^ s) = 0 := by decide +kernel
theorem msk_in : ∀ s, s < 64 → ∀ x, x < 6 → s.testBit x = false → (1 <<< x) &&& (63 ^^^ s) = 1 <<< x := by decide +kernel
theorem or_and (m b k : Nat) : (m ||| b) &&& k = (m &&& k) ||| (b &&& k) := by
  apply Nat.eq_of_testBit_eq
  intro i
  simp only [Nat.testBit_and, Nat.testBit_or]
  cases m.testBit i <;> cases b.testBit i <;> cases k.testBit i <;> rfl
/-- how many of the first q are not in s -/
def amN (s : Nat) (O : List Nat) (q : Nat) : Nat := bitN (bset (O.take q) &&& (63 ^^^ s))
theorem amN_0 (s : Nat) (O : List Nat) : amN s O 0 = 0 := by
  unfold amN
  rw [List.take_zero]
  show bitN (0 &&& _) = 0
  rw [Nat.zero_and]
  decide
theorem amN_s {s : Nat} {O : List Nat} (hs : s < 64) (hn : O.Nodup) (hl : ∀ x ∈ O, x < 6) {q x : Nat} (hx : O[q]? = some x) : amN s O (q + 1) = amN s O q + (if s.testBit x = true then 0 else 1) := by
  unfold amN
  have h6 := hl x (List.mem_of_getElem? hx)
  have hm : bset (O.take q) < 64 := bset_lt _ (fun y hy => hl y (List.mem_of_mem_take hy))
  rw [List.take_succ, hx]
  show bitN (bset (O.take q ++ [x]) &&& (63 ^^^ s)) = _
  rw [bset_snoc, or_and]
  cases hb : s.testBit x with
  | true => rw [msk_out s hs x h6 hb, Nat.or_zero, if_pos rfl]; rfl
  | false =>
    rw [msk_in s hs x h6 hb, if_neg (by decide)]
    refine bitN_or _ (Nat.lt_of_le_of_lt Nat.and_le_left hm) x h6 ?_
    rw [Nat.testBit_and, bset_bit, decide_eq_false (nodup_take O q x hn hx), Bool.false_and]
theorem amN_all {O : List Nat} (hn : O.Nodup) (hl : ∀ x ∈ O, x < 6) : ∀ q, q ≤ O.length → amN 0 O q = q
  | 0, _ => amN_0 0 O
  | q + 1, h => by
    obtain ⟨x, hx⟩ : ∃ x, O[q]? = some x := ⟨O[q], List.getElem?_eq_getElem (by omega)⟩
    rw [amN_s (by omega) hn hl hx, amN_all hn hl q (by omega), Nat.zero_testBit, if_neg (by decide)]
theorem eraseIdx_map (g : Cr → Cr) : ∀ (l : List Cr) (i : Nat), (l.map g).eraseIdx i = (l.eraseIdx i).map g
  | [], i => by simp
  | c :: l, 0 => by simp
  | c :: l, i + 1 => by
    rw [List.map_cons, List.eraseIdx_cons_succ, List.eraseIdx_cons_succ, List.map_cons, eraseIdx_map g l i]
theorem lnear_map (g : Cr → Cr) (hg : ∀ c, (g c).1 = c.1) (L : List Cr) (p : Nat) : ∀ n, lnear (L.map g) p n = lnear L p n
  | 0 => rfl
  | n + 1 => by
    rw [lnear, lnear, List.getElem?_map, lnear_map g hg L p n]
    cases L[n]? with
    | none => rfl
    | some c => simp only [Option.map_some, hg]
theorem layL_map (g : Cr → Cr) (hg : ∀ c, (g c).1 = c.1 ∧ (g c).2.1 = c.2.1) (L : List Cr) (c : Cr) : layL (L.map g) (g c) = (layL L c).map g := by
  unfold layL
  rw [lnear_map g (fun c => (hg c).1), (hg c).1, (hg c).2, List.length_map]
  cases lnear L c.1 L.length with
  | none => simp
  | some j =>
    dsimp only
    rw [List.getElem?_map]
    cases L[j]? with
    | none => simp
    | some c' =>
      simp only [Option.map_some, (hg c').1, (hg c').2]
      split
      · rw [eraseIdx_map]
      · simp
def tgC (s : Nat) (c : Cr) : Cr := (bitN (c.2.2.2.2 &&& (63 ^^^ s)), c.2.1, c.2.2.1, c.2.2.2.1, c.2.2.2.2)
def tgF (s : Nat) (acc : List Cr) (c : Cr) : List Cr := if woB s c then layL acc (tgC s c) else acc
def tgL (s : Nat) (L : List Cr) : List Cr := L.foldl (tgF s) []
theorem tgF_len (s : Nat) : ∀ (l acc : List Cr), (l.foldl (tgF s) acc).length ≤ acc.length + l.length
  | [], acc => by simp
  | c :: l, acc => by
    rw [List.foldl_cons, List.length_cons]
    have h1 := tgF_len s l (tgF s acc c)
    have h2 : (tgF s acc c).length ≤ acc.length + 1 := by
      unfold tgF
      split
      · exact layL_len _ _
      · omega
    omega
theorem woL_tg (s : Nat) (L : List Cr) : woL s L = (tgL s L).map (fun c => (c.1, c.2.1, 0, 0, 0)) := by
  have : ∀ (l acc : List Cr), l.foldl (woF s) (acc.map (fun c => ((c.1, c.2.1, 0, 0, 0) : Cr))) = (l.foldl (tgF s) acc).map (fun c => ((c.1, c.2.1, 0, 0, 0) : Cr)) := by
    intro l
    induction l with
    | nil => intro acc; rfl
    | cons c l ih =>
      intro acc
      rw [List.foldl_cons, List.foldl_cons, ← ih]
      congr 1
      unfold woF tgF
      split
      · exact layL_map (fun c => ((c.1, c.2.1, 0, 0, 0) : Cr)) (fun c => ⟨rfl, rfl⟩) acc (tgC s c)
      · rfl
  exact this L []
theorem woL_len (s : Nat) (L : List Cr) : (woL s L).length = (tgL s L).length := by rw [woL_tg, List.length_map]
theorem tgL_0 {L : List Cr} {O : List Nat} (h : rpl O L) (hn : O.Nodup) (hl : ∀ x ∈ O, x < 6) : tgL 0 L = tanL L := by
  have : ∀ (l acc : List Cr), (∀ c ∈ l, tgC 0 c = c) → l.foldl (tgF 0) acc = l.foldl layL acc := by
    intro l
    induction l with
    | nil => intro acc _; rfl
    | cons c l ih =>
      intro acc hc
      rw [List.foldl_cons, List.foldl_cons, ih _ (fun x hx => hc x (List.mem_cons_of_mem _ hx))]
      congr 1
      unfold tgF woB
      rw [Nat.zero_testBit, Nat.zero_testBit, hc c List.mem_cons_self]
      rfl
  refine this L [] (fun c hc => ?_)
  obtain ⟨k, hk⟩ := List.getElem?_of_mem hc
  obtain ⟨h1, h2, -⟩ := rpl_get h hk
  have hp := ordE_perm (L.take k) O
  have h3 := amN_all (O := ordE O (L.take k)) (hp.nodup_iff.mpr hn) (fun x hx => hl x (hp.mem_iff.mp hx)) c.1 (by rw [ordE_len]; omega)
  unfold tgC
  have h4 : c.2.2.2.2 = bset ((ordE O (L.take k)).take c.1) := by rw [h1]; rfl
  rw [h4]
  unfold amN at h3
  rw [h3, ← h4]
