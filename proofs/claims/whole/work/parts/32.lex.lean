/-! what is read from a tape: tokens -/
def scan (P : Nat → Bool) (T : List Nat) (p : Nat) : Nat := p + ((T.drop p).takeWhile P).length
theorem scan_no {P : Nat → Bool} {T : List Nat} {p : Nat} (h : ∀ b, T[p]? = some b → P b = false) : scan P T p = p := by
  unfold scan
  by_cases hp : p < T.length
  · rw [List.drop_eq_getElem_cons hp, List.takeWhile_cons, h _ (List.getElem?_eq_getElem hp)]; rfl
  · rw [List.drop_eq_nil_of_le (by omega)]; rfl
theorem scan_yes {P : Nat → Bool} {T : List Nat} {p b : Nat} (hb : T[p]? = some b) (h : P b = true) : scan P T p = scan P T (p + 1) := by
  unfold scan
  obtain ⟨hp, rfl⟩ := List.getElem?_eq_some_iff.mp hb
  rw [List.drop_eq_getElem_cons hp, List.takeWhile_cons, h]
  simp only [if_true, List.length_cons]
  omega
theorem scan_ge (P : Nat → Bool) (T : List Nat) (p : Nat) : p ≤ scan P T p := Nat.le_add_right _ _
theorem scan_le (P : Nat → Bool) {T : List Nat} {p : Nat} (h : p ≤ T.length) : scan P T p ≤ T.length := by
  unfold scan
  have h1 := (List.takeWhile_prefix P (l := T.drop p)).length_le
  rw [List.length_drop] at h1
  omega
def slc (T : List Nat) (s e : Nat) : List Nat := (T.drop s).take (e - s)
def blankB (b : Nat) : Bool := b == 32 || b == 10
def letB (b : Nat) : Bool := decide (97 ≤ b ∧ b ≤ 122)
def digB (b : Nat) : Bool := decide (48 ≤ b ∧ b ≤ 57)
def wL : List (List Nat) := [[111, 110, 101], [111, 116, 104, 101, 114], [112, 97, 99, 101], [110, 101, 97, 114], [109, 97, 110, 121], [104, 97, 110, 100], [111, 100, 100, 115], [119, 111, 114, 116, 104], [109, 105, 110, 100, 115], [111, 114], [97, 110, 100], [110, 111, 116]]
def wrd (j : Nat) : List Nat := wL.getD j []
/-- the word's number, of those from j on -/
def wcodeF (l : List Nat) : Nat → Nat → Nat
  | _, 0 => 23
  | j, t + 1 => if l = wrd j then j else wcodeF l (j + 1) t
def wcode (l : List Nat) : Nat := wcodeF l 0 12
def sgL : List Nat := [40, 41, 59, 43, 45, 42, 60, 61]
def sgnF (b : Nat) : Nat → Nat → Nat
  | _, 0 => 23
  | j, t + 1 => if sgL.getD j 0 = b then 12 + j else sgnF b (j + 1) t
def nval (l : List Nat) : Nat := l.foldl (fun v b => v * 10 + (b - 48)) 0
/-- a token: its number, where it begins, what is next, its worth -/
abbrev PS : Type := Nat × Nat × Nat × Nat
def lexP (T : List Nat) (p : Nat) : PS :=
  let s := scan blankB T p
  match T[s]? with
  | none => (22, s, s, 0)
  | some b => if letB b then (wcode (slc T s (scan letB T s)), s, scan letB T s, 0)
    else if digB b then (if 4 < scan digB T s - s then 23 else 21, s, scan digB T s, nval (slc T s (scan digB T s)))
    else (sgnF b 0 8, s, s + 1, 0)
theorem wrd_ok : ∀ j, j < 12 → lnS (j + 1) = (wrd j).length ∧ ∀ i, i < (wrd j).length → byS (j + 1) i = nI ((wrd j).getD i 0) := by decide +kernel
theorem sgn_ok : lnS 14 = 8 ∧ ∀ i, i < 8 → byS 14 i = nI (sgL.getD i 0) := by decide +kernel
section S32
variable {E : GE} {d : Nat} {adK adV ta : Nat → Nat}
set_option maxRecDepth 20000 in
set_option maxHeartbeats 1000000 in
theorem c_spelling (hE : g_E E adK adV ta) {j : Nat} (hj : j < 12) : g_Ca E mX6_spelling (d + 1) [.int (nI j)] [] (fun r w => r = adK (j + 1) ∧ w = []) := by
  have hN := g_E_N hE
  have ej := t_nI (n := j) (by omega)
  refine g_enterA hN.1 (by decide) [some (.int (nI j))] rfl (Nat.le_of_ble_eq_true rfl) (fun A Q hQ => ?_)
  skip
  refine g_iload0 dX6_spelling_0 (g_case (c := 0) (fun h1 => g_tsw_in (tgt := 64) 0 dX6_spelling_1 h1 (by decide) rfl (by decide) (?c64)) (fun n1_0 => g_case (c := 1) (fun h1 => g_tsw_in (tgt := 67) 1 dX6_spelling_1 h1 (by decide) rfl (by decide) (?c67)) (fun n1_1 => g_case (c := 2) (fun h1 => g_tsw_in (tgt := 70) 2 dX6_spelling_1 h1 (by decide) rfl (by decide) (?c70)) (fun n1_2 => g_case (c := 3) (fun h1 => g_tsw_in (tgt := 73) 3 dX6_spelling_1 h1 (by decide) rfl (by decide) (?c73)) (fun n1_3 => g_case (c := 4) (fun h1 => g_tsw_in (tgt := 76) 4 dX6_spelling_1 h1 (by decide) rfl (by decide) (?c76)) (fun n1_4 => g_case (c := 5) (fun h1 => g_tsw_in (tgt := 79) 5 dX6_spelling_1 h1 (by decide) rfl (by decide) (?c79)) (fun n1_5 => g_case (c := 6) (fun h1 => g_tsw_in (tgt := 82) 6 dX6_spelling_1 h1 (by decide) rfl (by decide) (?c82)) (fun n1_6 => g_case (c := 7) (fun h1 => g_tsw_in (tgt := 85) 7 dX6_spelling_1 h1 (by decide) rfl (by decide) (?c85)) (fun n1_7 => g_case (c := 8) (fun h1 => g_tsw_in (tgt := 88) 8 dX6_spelling_1 h1 (by decide) rfl (by decide) (?c88)) (fun n1_8 => g_case (c := 9) (fun h1 => g_tsw_in (tgt := 91) 9 dX6_spelling_1 h1 (by decide) rfl (by decide) (?c91)) (fun n1_9 => g_case (c := 10) (fun h1 => g_tsw_in (tgt := 94) 10 dX6_spelling_1 h1 (by decide) rfl (by decide) (?c94)) (fun n1_10 => g_case (c := 11) (fun h1 => g_tsw_in (tgt := 97) 11 dX6_spelling_1 h1 (by decide) rfl (by decide) (?c97)) (fun n1_11 => g_tsw_out (tgt := 100) dX6_spelling_1 (by omega) (by decide) (?c100))))))))))))))
  case c64 =>
    have : j = 0 := by omega
    subst this
    refine g_ldcS hE 1 rfl dX6_spelling_64 ?_
    refine g_aret rfl (Or.inl ⟨_, rfl⟩) dX6_spelling_66 (Nat.le_of_ble_eq_true rfl) (Nat.le_of_ble_eq_true rfl) ?q66_2
    exact hQ _ _ ⟨rfl, rfl⟩
  case c67 =>
    have : j = 1 := by omega
    subst this
    refine g_ldcS hE 2 rfl dX6_spelling_67 ?_
    refine g_aret rfl (Or.inl ⟨_, rfl⟩) dX6_spelling_69 (Nat.le_of_ble_eq_true rfl) (Nat.le_of_ble_eq_true rfl) ?q69_3
    exact hQ _ _ ⟨rfl, rfl⟩
  case c70 =>
    have : j = 2 := by omega
    subst this
    refine g_ldcS hE 3 rfl dX6_spelling_70 ?_
    refine g_aret rfl (Or.inl ⟨_, rfl⟩) dX6_spelling_72 (Nat.le_of_ble_eq_true rfl) (Nat.le_of_ble_eq_true rfl) ?q72_4
    exact hQ _ _ ⟨rfl, rfl⟩
  case c73 =>
    have : j = 3 := by omega
    subst this
    refine g_ldcS hE 4 rfl dX6_spelling_73 ?_
    refine g_aret rfl (Or.inl ⟨_, rfl⟩) dX6_spelling_75 (Nat.le_of_ble_eq_true rfl) (Nat.le_of_ble_eq_true rfl) ?q75_5
    exact hQ _ _ ⟨rfl, rfl⟩
  case c76 =>
    have : j = 4 := by omega
    subst this
    refine g_ldcS hE 5 rfl dX6_spelling_76 ?_
    refine g_aret rfl (Or.inl ⟨_, rfl⟩) dX6_spelling_78 (Nat.le_of_ble_eq_true rfl) (Nat.le_of_ble_eq_true rfl) ?q78_6
    exact hQ _ _ ⟨rfl, rfl⟩
  case c79 =>
    have : j = 5 := by omega
    subst this
    refine g_ldcS hE 6 rfl dX6_spelling_79 ?_
    refine g_aret rfl (Or.inl ⟨_, rfl⟩) dX6_spelling_81 (Nat.le_of_ble_eq_true rfl) (Nat.le_of_ble_eq_true rfl) ?q81_7
    exact hQ _ _ ⟨rfl, rfl⟩
  case c82 =>
    have : j = 6 := by omega
    subst this
    refine g_ldcS hE 7 rfl dX6_spelling_82 ?_
    refine g_aret rfl (Or.inl ⟨_, rfl⟩) dX6_spelling_84 (Nat.le_of_ble_eq_true rfl) (Nat.le_of_ble_eq_true rfl) ?q84_8
    exact hQ _ _ ⟨rfl, rfl⟩
  case c85 =>
    have : j = 7 := by omega
    subst this
    refine g_ldcS hE 8 rfl dX6_spelling_85 ?_
    refine g_aret rfl (Or.inl ⟨_, rfl⟩) dX6_spelling_87 (Nat.le_of_ble_eq_true rfl) (Nat.le_of_ble_eq_true rfl) ?q87_9
    exact hQ _ _ ⟨rfl, rfl⟩
  case c88 =>
    have : j = 8 := by omega
    subst this
    refine g_ldcS hE 9 rfl dX6_spelling_88 ?_
    refine g_aret rfl (Or.inl ⟨_, rfl⟩) dX6_spelling_90 (Nat.le_of_ble_eq_true rfl) (Nat.le_of_ble_eq_true rfl) ?q90_10
    exact hQ _ _ ⟨rfl, rfl⟩
  case c91 =>
    have : j = 9 := by omega
    subst this
    refine g_ldcS hE 10 rfl dX6_spelling_91 ?_
    refine g_aret rfl (Or.inl ⟨_, rfl⟩) dX6_spelling_93 (Nat.le_of_ble_eq_true rfl) (Nat.le_of_ble_eq_true rfl) ?q93_11
    exact hQ _ _ ⟨rfl, rfl⟩
  case c94 =>
    have : j = 10 := by omega
    subst this
    refine g_ldcS hE 11 rfl dX6_spelling_94 ?_
    refine g_aret rfl (Or.inl ⟨_, rfl⟩) dX6_spelling_96 (Nat.le_of_ble_eq_true rfl) (Nat.le_of_ble_eq_true rfl) ?q96_12
    exact hQ _ _ ⟨rfl, rfl⟩
  case c97 =>
    have : j = 11 := by omega
    subst this
    refine g_ldcS hE 12 rfl dX6_spelling_97 ?_
    refine g_aret rfl (Or.inl ⟨_, rfl⟩) dX6_spelling_99 (Nat.le_of_ble_eq_true rfl) (Nat.le_of_ble_eq_true rfl) ?q99_13
    exact hQ _ _ ⟨rfl, rfl⟩
  case c100 => omega
end S32
