/-! what is read: places go up, steps are not more than what was passed -/
def PsV (B : List Nat) (P : PS) : Prop := P.2.1 ≤ B.length ∧ P.2.2.1 ≤ B.length ∧ (P.1 < 22 → P.2.1 < P.2.2.1) ∧ (P.2.1 = B.length → P.1 = 22)
theorem lexP_PV {B : List Nat} {p : Nat} (hp : p ≤ B.length) : PsV B (lexP B p) ∧ p ≤ (lexP B p).2.1 := by
  unfold lexP PsV
  have h1 := scan_le blankB hp
  have h2 := scan_ge blankB B p
  generalize scan blankB B p = s at *
  dsimp only
  by_cases hs : s < B.length
  · obtain ⟨x, hx⟩ : ∃ x, B[s]? = some x := ⟨B[s], List.getElem?_eq_getElem hs⟩
    rw [hx]
    dsimp only
    by_cases hl : letB x = true
    · rw [if_pos hl]
      have h3 := scan_le letB (T := B) (p := s) (by omega)
      have h4 := scan_yes hx hl
      have h5 := scan_ge letB B (s + 1)
      dsimp only
      exact ⟨⟨by omega, by omega, fun _ => by omega, fun q => by omega⟩, by omega⟩
    · rw [if_neg hl]
      by_cases hd : digB x = true
      · rw [if_pos hd]
        have h3 := scan_le digB (T := B) (p := s) (by omega)
        have h4 := scan_yes hx hd
        have h5 := scan_ge digB B (s + 1)
        dsimp only
        exact ⟨⟨by omega, by omega, fun _ => by omega, fun q => by omega⟩, by omega⟩
      · rw [if_neg hd]
        dsimp only
        exact ⟨⟨by omega, by omega, fun _ => by omega, fun q => by omega⟩, by omega⟩
  · rw [List.getElem?_eq_none (by omega)]
    dsimp only
    exact ⟨⟨by omega, by omega, fun q => by omega, fun _ => rfl⟩, by omega⟩
/-- one token is passed -/
theorem PsV.next {B : List Nat} {P : PS} (h : PsV B P) (h22 : P.1 < 22) : PsV B (lexP B P.2.2.1) ∧ P.2.1 + 1 ≤ (lexP B P.2.2.1).2.1 := by
  have h1 := lexP_PV h.2.1
  have h2 := h.2.2.1 h22
  exact ⟨h1.1, by omega⟩
def PsG (B : List Nat) (P : PS) (r : PR) : Prop := r.1 = true → PsV B r.2.1 ∧ P.2.1 + r.2.2.length ≤ r.2.1.2.1
theorem loopB_f (T : List Nat) (isOp : Nat → Bool) (sub : PS → PR) : ∀ (t : Nat) (r : PR), r.1 = false → loopB T isOp sub t r = r
  | 0, r, _ => rfl
  | t + 1, r, h => by rw [loopB, if_neg (fun q => by rw [h] at q; cases q.1)]
theorem loopB_PG {B : List Nat} {isOp : Nat → Bool} {sub : PS → PR} (hop : ∀ k, isOp k = true → k < 22) (hsub : ∀ P, PsV B P → PsG B P (sub P)) {P : PS} : ∀ (t : Nat) (r : PR), PsG B P r → PsG B P (loopB B isOp sub t r)
  | 0, r, h => h
  | t + 1, r, h => by
    rw [loopB]
    by_cases q : r.1 = true ∧ isOp r.2.1.1 = true
    · rw [if_pos q]
      obtain ⟨h1, h2⟩ := h q.1
      obtain ⟨h3, h4⟩ := h1.next (hop _ q.2)
      refine loopB_PG hop hsub t _ (fun hh => ?_)
      obtain ⟨h5, h6⟩ := hsub _ h3 hh
      refine ⟨h5, ?_⟩
      dsimp only
      rw [List.length_append, List.length_append, List.length_singleton]
      omega
    · rw [if_neg q]; exact h
theorem prs_PG (B : List Nat) : ∀ (F L o : Nat) (P : PS), PsV B P → PsG B P (prs B F L o P)
  | 0, L, o, P, h => fun q => by rw [prs] at q; cases q
  | F + 1, L, o, P, h => by
    rw [prs]
    by_cases h0 : L = 0
    · rw [if_pos h0]
      exact loopB_PG (fun k q => by have := beq_iff_eq.mp q; omega) (fun P2 h2 => prs_PG B F 1 o P2 h2) 160 _ (prs_PG B F 1 o P h)
    rw [if_neg h0]
    by_cases h1 : L = 1
    · rw [if_pos h1]
      exact loopB_PG (fun k q => by have := beq_iff_eq.mp q; omega) (fun P2 h2 => prs_PG B F 2 o P2 h2) 160 _ (prs_PG B F 2 o P h)
    rw [if_neg h1]
    by_cases h2 : L = 2
    · rw [if_pos h2]
      by_cases h11 : P.1 = 11
      · rw [if_pos h11]
        by_cases h5 : 5 ≤ o
        · rw [if_pos h5]; intro q; cases q
        · rw [if_neg h5]
          obtain ⟨g1, g2⟩ := h.next (by omega)
          intro q
          obtain ⟨g3, g4⟩ := prs_PG B F 2 (o + 1) _ g1 q
          refine ⟨g3, ?_⟩
          dsimp only
          rw [List.length_append, List.length_singleton]
          omega
      · rw [if_neg h11]; exact prs_PG B F 3 o P h
    rw [if_neg h2]
    by_cases h3 : L = 3
    · rw [if_pos h3]
      have g0 := prs_PG B F 4 o P h
      by_cases hc : (prs B F 4 o P).1 = true ∧ ((prs B F 4 o P).2.1.1 = 18 ∨ (prs B F 4 o P).2.1.1 = 19)
      · rw [if_pos hc]
        obtain ⟨g1, g2⟩ := g0 hc.1
        obtain ⟨g3, g4⟩ := g1.next (by omega)
        intro q
        obtain ⟨g5, g6⟩ := prs_PG B F 4 o _ g3 q
        refine ⟨g5, ?_⟩
        dsimp only
        rw [List.length_append, List.length_append, List.length_singleton]
        omega
      · rw [if_neg hc]; exact g0
    rw [if_neg h3]
    by_cases h4 : L = 4
    · rw [if_pos h4]
      exact loopB_PG (fun k q => by rcases (Bool.or_eq_true _ _).mp q with z | z <;> (have := beq_iff_eq.mp z; omega)) (fun P2 h2 => prs_PG B F 5 o P2 h2) 160 _ (prs_PG B F 5 o P h)
    rw [if_neg h4]
    by_cases h5 : L = 5
    · rw [if_pos h5]
      exact loopB_PG (fun k q => by have := beq_iff_eq.mp q; omega) (fun P2 h2 => prs_PG B F 6 o P2 h2) 160 _ (prs_PG B F 6 o P h)
    rw [if_neg h5]
    by_cases h21 : P.1 = 21
    · rw [if_pos h21]
      obtain ⟨g1, g2⟩ := h.next (by omega)
      exact fun _ => ⟨g1, g2⟩
    rw [if_neg h21]
    by_cases h55 : P.1 ≤ 5
    · rw [if_pos h55]
      obtain ⟨g1, g2⟩ := h.next (by omega)
      exact fun _ => ⟨g1, g2⟩
    rw [if_neg h55]
    by_cases ho : 5 ≤ o
    · rw [if_pos ho]; intro q; cases q
    rw [if_neg ho]
    by_cases h16 : P.1 = 16
    · rw [if_pos h16]
      obtain ⟨g1, g2⟩ := h.next (by omega)
      intro q
      obtain ⟨g3, g4⟩ := prs_PG B F 6 (o + 1) _ g1 q
      refine ⟨g3, ?_⟩
      dsimp only
      rw [List.length_append, List.length_singleton]
      omega
    rw [if_neg h16]
    by_cases h12 : P.1 = 12
    · rw [if_pos h12]
      obtain ⟨g1, g2⟩ := h.next (by omega)
      by_cases hc : (prs B F 0 (o + 1) (lexP B P.2.2.1)).1 = true ∧ (prs B F 0 (o + 1) (lexP B P.2.2.1)).2.1.1 = 13
      · rw [if_pos hc]
        obtain ⟨g3, g4⟩ := prs_PG B F 0 (o + 1) _ g1 hc.1
        obtain ⟨g5, g6⟩ := g3.next (by omega)
        intro _
        refine ⟨g5, ?_⟩
        dsimp only
        omega
      · rw [if_neg hc]; intro q; cases q
    rw [if_neg h12]
    intro q; cases q
