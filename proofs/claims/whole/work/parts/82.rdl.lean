/-! the two readers tell the same -/
theorem rdPart_pt (T : List Nat) (p : Nat) (s : RS) : rdPart T p s = ((ptF T p s.2.1).1, (ptF T p s.2.1).2.1, addAll s.2.2.1 (ptF T p s.2.1).2.2, updN s.2.2.2 p (addAll s.2.2.1 (ptF T p s.2.1).2.2).length) := by
  unfold rdPart ptF
  by_cases h : s.2.1.1 = 6 + p
  · rw [if_pos h, if_pos h]
    by_cases hc : (prs T 42 0 0 (lexP T s.2.1.2.2.1)).1 = true ∧ (prs T 42 0 0 (lexP T s.2.1.2.2.1)).2.1.1 = 14
    · rw [if_pos hc, if_pos hc]
    · rw [if_neg hc, if_neg hc]
  · rw [if_neg h, if_neg h]; rfl
theorem addAll_room : ∀ (seg C : List Int32), C.length + seg.length ≤ 160 → addAll C seg = C ++ seg
  | [], C, _ => by rw [List.append_nil]; rfl
  | x :: seg, C, h => by
    rw [List.length_cons] at h
    show addAll (addT C x) seg = _
    have h1 : addT C x = C ++ [x] := by unfold addT; rw [if_pos (by omega)]
    rw [h1, addAll_room seg (C ++ [x]) (by rw [List.length_append, List.length_singleton]; omega), List.append_assoc]
    rfl
theorem rdAll_un (B : List Nat) (e0 : Nat → Nat) : rdAll B e0 = rdF B 2 1 (rdPart B 0 (true, lexP B 0, [], e0)) := by
  unfold rdAll
  rw [rdF, if_pos rfl]
def sg1 (B : List Nat) : List Int32 := (rdp1 B).2.2
def sg2 (B : List Nat) : List Int32 := (rdp2 B).2.2
def sg3 (B : List Nat) : List Int32 := (rdp3 B).2.2
theorem rd_len {B : List Nat} (h160 : B.length ≤ 160) (h1 : (rdp1 B).1 = true) : PsV B (rdp1 B).2.1 ∧ (sg1 B).length ≤ (rdp1 B).2.1.2.1 := by
  have L0 := lexP_PV (B := B) (p := 0) (Nat.zero_le _)
  have := ptF_PG (p := 0) (by omega) L0.1 h1
  exact ⟨this.1, by have := this.2; unfold sg1 rdp1; omega⟩
theorem rd_len2 {B : List Nat} (h160 : B.length ≤ 160) (h1 : (rdp1 B).1 = true) (h2 : (rdp2 B).1 = true) : PsV B (rdp2 B).2.1 ∧ (sg1 B).length + (sg2 B).length ≤ (rdp2 B).2.1.2.1 := by
  have L1 := rd_len h160 h1
  have := ptF_PG (p := 1) (by omega) L1.1 h2
  exact ⟨this.1, by have := this.2; have := L1.2; unfold sg2 rdp2; omega⟩
theorem rd_len3 {B : List Nat} (h160 : B.length ≤ 160) (h1 : (rdp1 B).1 = true) (h2 : (rdp2 B).1 = true) (h3 : (rdp3 B).1 = true) : (sg1 B).length + (sg2 B).length + (sg3 B).length ≤ 160 := by
  have L1 := rd_len2 h160 h1 h2
  have := ptF_PG (p := 2) (by omega) L1.1 h3
  have h4 := this.1.1
  have h5 := this.2
  have := L1.2
  unfold sg3 rdp3
  omega
theorem rdAll_1 {B : List Nat} {e0 : Nat → Nat} (h : (rdp1 B).1 = false) : (rdAll B e0).1 = false ∧ (rdAll B e0).2.1 = (rdp1 B).2.1 := by
  rw [rdAll_un, rdPart_pt]
  have h' : (ptF B 0 (lexP B 0)).1 = false := h
  rw [rdF, if_neg (by dsimp only; rw [h']; decide)]
  exact ⟨h', rfl⟩
theorem rdAll_2 {B : List Nat} {e0 : Nat → Nat} (h1 : (rdp1 B).1 = true) (h : (rdp2 B).1 = false) : (rdAll B e0).1 = false ∧ (rdAll B e0).2.1 = (rdp2 B).2.1 := by
  rw [rdAll_un, rdPart_pt]
  have h1' : (ptF B 0 (lexP B 0)).1 = true := h1
  have h' : (ptF B 1 (ptF B 0 (lexP B 0)).2.1).1 = false := h
  rw [rdF, if_pos (by exact h1'), rdPart_pt, rdF, if_neg (by dsimp only; rw [h']; decide)]
  exact ⟨h', rfl⟩
theorem rdAll_3 {B : List Nat} {e0 : Nat → Nat} (h160 : B.length ≤ 160) (h1 : (rdp1 B).1 = true) (h2 : (rdp2 B).1 = true) : (rdAll B e0).1 = (rdp3 B).1 ∧ (rdAll B e0).2.1 = (rdp3 B).2.1 ∧ ((rdp3 B).1 = true → (rdAll B e0).2.2.1 = sg1 B ++ (sg2 B ++ sg3 B) ∧ (rdAll B e0).2.2.2 = updN (updN (updN e0 0 (sg1 B).length) 1 ((sg1 B).length + (sg2 B).length)) 2 ((sg1 B).length + (sg2 B).length + (sg3 B).length)) := by
  rw [rdAll_un, rdPart_pt]
  have h1' : (ptF B 0 (lexP B 0)).1 = true := h1
  have h2' : (ptF B 1 (ptF B 0 (lexP B 0)).2.1).1 = true := h2
  rw [rdF, if_pos (by exact h1'), rdPart_pt, rdF, if_pos (by exact h2'), rdPart_pt, rdF]
  refine ⟨rfl, rfl, fun h3 => ?_⟩
  have hl := rd_len3 h160 h1 h2 h3
  have e1 : addAll [] (ptF B 0 (lexP B 0)).2.2 = sg1 B := by rw [addAll_room _ _ (by have : (ptF B 0 (lexP B 0)).2.2 = sg1 B := rfl; rw [this]; simp; omega)]; rfl
  have e2 : addAll (sg1 B) (ptF B 1 (ptF B 0 (lexP B 0)).2.1).2.2 = sg1 B ++ sg2 B := by
    have : (ptF B 1 (ptF B 0 (lexP B 0)).2.1).2.2 = sg2 B := rfl
    rw [this, addAll_room _ _ (by omega)]
  have e3 : addAll (sg1 B ++ sg2 B) (ptF B 2 (ptF B 1 (ptF B 0 (lexP B 0)).2.1).2.1).2.2 = sg1 B ++ (sg2 B ++ sg3 B) := by
    have : (ptF B 2 (ptF B 1 (ptF B 0 (lexP B 0)).2.1).2.1).2.2 = sg3 B := rfl
    rw [this, addAll_room _ _ (by rw [List.length_append]; omega), List.append_assoc]
  dsimp only
  rw [e1, e2, e3]
  refine ⟨rfl, ?_⟩
  rw [List.length_append, List.length_append, List.length_append, Nat.add_assoc]
theorem rdAll_iff {B : List Nat} {e0 : Nat → Nat} (h160 : B.length ≤ 160) : rdOK (rdAll B e0) ↔ reOK B := by
  unfold rdOK reOK
  cases h1 : (rdp1 B).1 with
  | false =>
    rw [(rdAll_1 h1).1]
    constructor
    · intro q; cases q.1
    · intro q; cases q.1
  | true =>
    cases h2 : (rdp2 B).1 with
    | false =>
      rw [(rdAll_2 h1 h2).1]
      constructor
      · intro q; cases q.1
      · intro q; cases q.2.1
    | true =>
      obtain ⟨g1, g2, -⟩ := rdAll_3 (e0 := e0) h160 h1 h2
      rw [g1, g2]
      exact ⟨fun q => ⟨rfl, rfl, q.1, q.2⟩, fun q => ⟨q.2.2.1, q.2.2.2⟩⟩
theorem rdAll_at {B : List Nat} {e0 : Nat → Nat} (h160 : B.length ≤ 160) : (rdAll B e0).2.1.2.1 = reAt B := by
  unfold reAt
  cases h1 : (rdp1 B).1 with
  | false => rw [if_pos rfl, (rdAll_1 h1).2]
  | true =>
    rw [if_neg (by decide)]
    cases h2 : (rdp2 B).1 with
    | false => rw [if_pos rfl, (rdAll_2 h1 h2).2]
    | true => rw [if_neg (by decide), (rdAll_3 h160 h1 h2).2.1]
theorem rpn_app (nm : Nat → Int32) : ∀ (seg X Y s : List Int32), rpnR (X ++ (seg ++ Y)) nm X.length seg.length s = seg.foldl (work1 nm) s
  | [], X, Y, s => rfl
  | x :: seg, X, Y, s => by
    have h1 : (X ++ (x :: seg ++ Y)).getD X.length 0 = x := by
      rw [List.getD_eq_getElem?_getD, List.getElem?_append_right (Nat.le_refl _), Nat.sub_self]; rfl
    rw [List.length_cons, rpnR, h1, List.foldl_cons]
    have := rpn_app nm seg (X ++ [x]) Y (work1 nm s x)
    rw [List.length_append, List.length_singleton, List.append_assoc] at this
    exact this
/-- the text's steps and ends, as its bytes tell them -/
def TX (B : List Nat) (C : List Int32) (e : Nat → Nat) : Prop := B.length ≤ 160 ∧ ∃ e0, rdOK (rdAll B e0) ∧ C = (rdAll B e0).2.2.1 ∧ e = (rdAll B e0).2.2.2
theorem TX.lit {B : List Nat} {C : List Int32} {e : Nat → Nat} (h : TX B C e) : reOK B ∧ C = sg1 B ++ (sg2 B ++ sg3 B) ∧ e 0 = (sg1 B).length ∧ e 1 = (sg1 B).length + (sg2 B).length ∧ e 2 = (sg1 B).length + (sg2 B).length + (sg3 B).length := by
  obtain ⟨h160, e0, h1, h2, h3⟩ := h
  have hre := (rdAll_iff h160).mp h1
  obtain ⟨r1, r2, r3, r4⟩ := hre
  obtain ⟨-, -, g⟩ := rdAll_3 (e0 := e0) h160 r1 r2
  obtain ⟨g1, g2⟩ := g r3
  rw [g1] at h2
  rw [g2] at h3
  subst h3
  exact ⟨⟨r1, r2, r3, r4⟩, h2, rfl, rfl, rfl⟩
theorem TX.ok {B : List Nat} {C : List Int32} {e : Nat → Nat} (h : TX B C e) : txtOK C e := by
  obtain ⟨-, h2, h3, h4, h5⟩ := h.lit
  unfold txtOK
  rw [h2, h3, h4, h5]
  simp
  omega
theorem TX.val {B : List Nat} {C : List Int32} {e : Nat → Nat} (h : TX B C e) (nm : Nat → Int32) {part : Nat} (hp : part < 3) {z : Int32} (hz : ∀ s, (if part = 0 then rdp1 B else if part = 1 then rdp2 B else rdp3 B).2.2.foldl (work1 nm) s = z :: s) : rpnV C nm (if part = 0 then 0 else e (part - 1)) (e part) = z := by
  obtain ⟨-, h2, h3, h4, h5⟩ := h.lit
  unfold rpnV
  match part, hp with
  | 0, _ =>
    rw [if_pos rfl, h3, h2, Nat.sub_zero]
    have := rpn_app nm (sg1 B) [] (sg2 B ++ sg3 B) []
    rw [List.nil_append, List.length_nil] at this
    rw [this]
    have := hz []
    rw [if_pos rfl] at this
    unfold sg1
    rw [this]; rfl
  | 1, _ =>
    rw [if_neg (by decide), h4, show e (1 - 1) = (sg1 B).length from h3, h2, Nat.add_sub_cancel_left]
    rw [rpn_app nm (sg2 B) (sg1 B) (sg3 B) []]
    have := hz []
    rw [if_neg (by decide), if_pos rfl] at this
    unfold sg2
    rw [this]; rfl
  | 2, _ =>
    rw [if_neg (by decide), h5, show e (2 - 1) = (sg1 B).length + (sg2 B).length from h4, h2, Nat.add_sub_cancel_left]
    have := rpn_app nm (sg3 B) (sg1 B ++ sg2 B) [] []
    rw [List.append_nil, List.length_append, List.append_assoc] at this
    rw [this]
    have := hz []
    rw [if_neg (by decide), if_neg (by decide)] at this
    unfold sg3
    rw [this]; rfl
