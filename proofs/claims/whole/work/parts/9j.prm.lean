/-! worlds in any order; worlds out of blocks -/
theorem va_P.perm {D : va_G} {cl : List vw_C} {ws ws' : va_W} {H : Heap} (h : va_P D cl ws H) (hp : List.Perm ws' ws) : va_P D cl ws' H := by
  intro k q hk
  obtain ⟨i, hi⟩ := List.getElem?_of_mem (hp.mem_iff.mp (List.mem_of_getElem? hk))
  exact h i q hi
theorem va_D_iff {A : Nat → Prop} {ws : va_W} : va_D A ws ↔ (ws.map (fun q => q.1)).Nodup ∧ ∀ q ∈ ws, A q.1 := by
  constructor
  · intro h
    refine ⟨?_, ?_⟩
    · refine List.pairwise_iff_getElem.mpr (fun i j hi hj hij he => ?_)
      rw [List.length_map] at hi hj
      rw [List.getElem_map, List.getElem_map] at he
      have := h.1 i j _ _ (List.getElem?_eq_getElem hi) (List.getElem?_eq_getElem hj) he
      omega
    · intro q hq
      obtain ⟨i, hi⟩ := List.getElem?_of_mem hq
      exact h.2 i q hi
  · intro h
    refine ⟨fun i j p q hi hj he => ?_, fun k q hk => h.2 q (List.mem_of_getElem? hk)⟩
    have hn := List.pairwise_iff_getElem.mp h.1
    obtain ⟨l1, rfl⟩ := List.getElem?_eq_some_iff.mp hi
    obtain ⟨l2, rfl⟩ := List.getElem?_eq_some_iff.mp hj
    by_cases c1 : i < j
    · exact absurd (by rw [List.getElem_map, List.getElem_map]; exact he) (hn i j (by rw [List.length_map]; exact l1) (by rw [List.length_map]; exact l2) c1)
    · by_cases c2 : j < i
      · exact absurd (by rw [List.getElem_map, List.getElem_map]; exact he.symm) (hn j i (by rw [List.length_map]; exact l2) (by rw [List.length_map]; exact l1) c2)
      · omega
theorem va_D.perm {A : Nat → Prop} {ws ws' : va_W} (h : va_D A ws) (hp : List.Perm ws' ws) : va_D A ws' := by
  rw [va_D_iff] at h ⊢
  exact ⟨((hp.map (fun q => q.1)).nodup_iff).mpr h.1, fun q hq => h.2 q (hp.mem_iff.mp hq)⟩
section S9j
variable {E : GE} {M : GM} {d mc ms : Nat} {A : Nat → Prop} {Q : Option Value → va_W → Prop} {k n pc : Nat} {ls : List (Option Value)} {st : List Value} {ws ws' : va_W} {av : List Value}
theorem g_perm (hp : List.Perm ws' ws) (kk : G E M d mc ms A Q k n pc ls st ws') : G E M d mc ms A Q k n pc ls st ws := by
  intro p e s m args below meth c H locs ls0 hc hP hD hS hl
  exact kk p e s m args below meth c H locs ls0 hc (hP.perm hp) (hD.perm hp) hS hl
theorem g_cperm (h : g_C E M d mc ms av ws Q) (hp : List.Perm ws' ws) : g_C E M d mc ms av ws' Q := by
  intro sz
  have hA : ∀ q : Nat, va_A ws sz q → va_A ws' sz q := by
    intro q hq
    rcases hq with ⟨j, x, hj⟩ | hq
    · obtain ⟨i, hi⟩ := List.getElem?_of_mem (hp.mem_iff.mpr (List.mem_of_getElem? hj))
      exact Or.inl ⟨i, x, hi⟩
    · exact Or.inr hq
  refine MetFree.mono (h sz) ?_ (fun _ _ _ _ _ h => h) ?_
  · intro a s hq
    obtain ⟨h0, h1, h2, h3, h4, h5, h6⟩ := hq
    exact ⟨h0, h1, h2, h3.perm hp.symm, h4, h5.perm hp.symm, h6⟩
  · intro a s o t hp2 hq
    obtain ⟨⟨⟨v, w1, hv, hQ, hPw, hDw⟩, hz, hk⟩, L, hF, hL⟩ := hq
    exact ⟨⟨⟨v, w1, hv, hQ, hPw, hDw.weaken (fun _ _ _ h => hA _ h)⟩, hz, fun q h7 h8 => hk q h7 (fun z => h8 (hA q z))⟩, L, hF, fun q hq => hA _ (hL q hq)⟩
/-- a launch of which more is said -/
theorem g_cE {S' : State → Heap → Prop} (hS : ∀ U H, S' U H → E.2.2.2.2 U H) (h : g_C E M d mc ms av ws Q) : g_C (E.1, E.2.1, E.2.2.1, E.2.2.2.1, S') M d mc ms av ws Q := by
  intro sz
  refine MetFree.mono (h sz) ?_ (fun _ _ _ _ _ h => h) (fun _ _ _ _ _ h => h)
  intro a s hq
  obtain ⟨h0, h1, h2, h3, h4, h5, h6⟩ := hq
  exact ⟨h0, h1, h2, h3, h4, h5, hS _ _ h6⟩
end S9j
/-- blocks one behind the other -/
def bkF (B : Nat → va_W) : List Nat → va_W
  | [] => []
  | [i] => B i
  | i :: j :: r => B i ++ bkF B (j :: r)
theorem bkF_flat (B : Nat → va_W) : ∀ is, bkF B is = is.flatMap B
  | [] => rfl
  | [i] => by simp [bkF]
  | i :: j :: r => by rw [bkF, bkF_flat B (j :: r), List.flatMap_cons (x := i)]
def bkR (is : List Nat) : List Nat := (List.range 26).filter (fun j => !is.contains j)
theorem bk_perm (B : Nat → va_W) {is : List Nat} (hnd : is.Nodup) (hlt : ∀ i ∈ is, i < 26) : List.Perm ((List.range 26).flatMap B) (is.flatMap B ++ (bkR is).flatMap B) := by
  have h1 : List.Perm ((List.range 26).filter (fun j => is.contains j)) is := by
    refine (List.perm_ext_iff_of_nodup (List.nodup_range.filter _) hnd).mpr (fun x => ?_)
    rw [List.mem_filter, List.mem_range]
    constructor
    · intro h; exact List.contains_iff_mem.mp h.2
    · intro h; exact ⟨hlt x h, List.contains_iff_mem.mpr h⟩
  have h2 := (List.filter_append_perm (fun j => is.contains j) (List.range 26)).symm
  have h3 := (h2.trans (h1.append_right _)).flatMap_right B
  rw [List.flatMap_append] at h3
  exact h3
def bkP (B : Nat → va_W) (ws : va_W) : Prop := List.Perm ws ((List.range 26).flatMap B)
theorem bkP.up {B B' : Nat → va_W} {is : List Nat} (hnd : is.Nodup) (hlt : ∀ i ∈ is, i < 26) (hB : ∀ j, ¬ j ∈ is → B' j = B j) : bkP B' (bkF B' is ++ (bkR is).flatMap B) := by
  have h := (bk_perm B' hnd hlt).symm
  rw [bkF_flat]
  have e : (bkR is).flatMap B = (bkR is).flatMap B' := by
    rw [List.flatMap_def, List.flatMap_def]
    congr 1
    apply List.map_congr_left
    intro j hj
    unfold bkR at hj
    have h2 := (List.mem_filter.mp hj).2
    refine (hB j (fun q => ?_)).symm
    rw [List.contains_iff_mem.mpr q] at h2
    cases h2
  rw [e]
  exact h
section S9jb
variable {E : GE} {M : GM} {d mc ms : Nat} {ws : va_W} {av : List Value} {B : Nat → va_W} {is : List Nat}
theorem bk_liftC {Q : Option Value → va_W → Prop} (hnd : is.Nodup) (hlt : ∀ i ∈ is, i < 26) (hp : bkP B ws) (hC : g_C E M d mc ms av (bkF B is) Q) : g_C E M d mc ms av ws (fun z w => ∃ w1, Q z w1 ∧ ∀ B' : Nat → va_W, bkF B' is = w1 → (∀ j, ¬ j ∈ is → B' j = B j) → bkP B' w) := by
  have h1 := g_frame (X := []) (Y := (bkR is).flatMap B) hC
  refine g_post (g_cperm h1 ?_) ?_
  · have := List.Perm.trans hp (bk_perm B hnd hlt)
    rw [bkF_flat]
    exact this
  · intro v w hq
    obtain ⟨w1, hQ, rfl⟩ := hq
    refine ⟨w1, hQ, fun B' e hB => ?_⟩
    have := bkP.up hnd hlt hB
    rw [e] at this
    exact this
theorem bk_liftI {Q : Int32 → va_W → Prop} (hnd : is.Nodup) (hlt : ∀ i ∈ is, i < 26) (hp : bkP B ws) (hC : g_Ci E M d av (bkF B is) Q) : g_Ci E M d av ws (fun z w => ∃ w1, Q z w1 ∧ ∀ B' : Nat → va_W, bkF B' is = w1 → (∀ j, ¬ j ∈ is → B' j = B j) → bkP B' w) :=
  g_post (bk_liftC hnd hlt hp hC) (fun v w hq => by obtain ⟨w1, ⟨r, hv, hQ⟩, h2⟩ := hq; exact ⟨r, hv, w1, hQ, h2⟩)
theorem bk_liftL {Q : Int64 → va_W → Prop} (hnd : is.Nodup) (hlt : ∀ i ∈ is, i < 26) (hp : bkP B ws) (hC : g_Cl E M d av (bkF B is) Q) : g_Cl E M d av ws (fun z w => ∃ w1, Q z w1 ∧ ∀ B' : Nat → va_W, bkF B' is = w1 → (∀ j, ¬ j ∈ is → B' j = B j) → bkP B' w) :=
  g_post (bk_liftC hnd hlt hp hC) (fun v w hq => by obtain ⟨w1, ⟨r, hv, hQ⟩, h2⟩ := hq; exact ⟨r, hv, w1, hQ, h2⟩)
end S9jb
/-- the blocks, some of them anew -/
def bkU (B : Nat → va_W) : List (Nat × va_W) → Nat → va_W
  | [] => B
  | (i, w) :: r => fun j => if j = i then w else bkU B r j
theorem bkU_o {B : Nat → va_W} : ∀ {l : List (Nat × va_W)} {j : Nat}, ¬ j ∈ l.map (fun q => q.1) → bkU B l j = B j
  | [], _, _ => rfl
  | (i, w) :: r, j, h => by
    rw [List.map_cons, List.mem_cons, not_or] at h
    show (if j = i then w else bkU B r j) = B j
    rw [if_neg h.1, bkU_o h.2]
