/-! the whole world, in blocks -/
theorem bkU_at {B : Nat → va_W} : ∀ {l : List (Nat × va_W)} {i : Nat} {x : va_W}, (l.map (fun q => q.1)).Nodup → (i, x) ∈ l → bkU B l i = x
  | [], _, _, _, h => absurd h List.not_mem_nil
  | (j, y) :: r, i, x, hn, h => by
    rw [List.map_cons, List.nodup_cons] at hn
    show (if i = j then y else bkU B r i) = x
    rcases List.mem_cons.mp h with q | q
    · cases q
      exact if_pos rfl
    · have hne : i ≠ j := fun e => hn.1 (by rw [← e]; exact List.mem_map.mpr ⟨_, q, rfl⟩)
      rw [if_neg hne]
      exact bkU_at hn.2 q
def updS (sh : Nat → Int32 × List Int32) (i : Nat) (s : Int32 × List Int32) : Nat → Int32 × List Int32 := fun j => if j = i then s else sh j
theorem updS_s {sh : Nat → Int32 × List Int32} {i : Nat} {s : Int32 × List Int32} : updS sh i s i = s := if_pos rfl
theorem updS_o {sh : Nat → Int32 × List Int32} {i j : Nat} {s : Int32 × List Int32} (h : ¬ j = i) : updS sh i s j = sh j := if_neg h
def updC (tC : Nat → List Int32) (i : Nat) (C : List Int32) : Nat → List Int32 := fun j => if j = i then C else tC j
def updE (tE : Nat → Nat → Nat) (i : Nat) (e : Nat → Nat) : Nat → Nat → Nat := fun j => if j = i then e else tE j
def CB (E : GE) (a : Nat → Nat) (D : Dg) (r : Nat) (L : List Cr) (D2 : Dg) (r2 : Nat) (L2 : List Cr) (im : Int32) (X : Nat) (T : List Nat) (tC : Nat → List Int32) (tE : Nat → Nat → Nat) (sh : Nat → Int32 × List Int32) (B : Nat → va_W) : Prop :=
  B 0 = [(a 0, dolO a im (nI X))] ∧ Pck E a 1 D r (B 1) ∧ Row E a 7 L (B 2) ∧ Pck E a 13 D2 r2 (B 3) ∧ Row E a 19 L2 (B 4) ∧ (∃ Lt, Row E a 25 Lt (B 5)) ∧ (∃ Lt, Row E a 31 Lt (B 6)) ∧ (∃ en fd pr tr n0 le, B 7 = ordW E a 37 en fd pr tr n0 le) ∧ RdrI E a 42 T (B 8) ∧ (∃ C e, Txt E a 44 C e (B 9)) ∧ B 10 = [(a 48, raT E a)] ∧ (∃ nm, B 11 = [(a 49, ia E 6 nm)]) ∧ B 12 = [(a 50, raS E a)] ∧ (∃ to tp, B 13 = [(a 51, ia E 6 to), (a 52, ia E 4 tp)]) ∧ (∃ wo, B 14 = [(a 53, ia E 36 wo)]) ∧ (∀ i, i < 6 → Txt E a (54 + 4 * i) (tC i) (tE i) (B (15 + i))) ∧ (∀ i, i < 4 → Sht E a (78 + 2 * i) (sh i).1 (sh i).2 (B (21 + i)))
def CW (E : GE) (a b : Nat → Nat) (D : Dg) (r : Nat) (L : List Cr) (D2 : Dg) (r2 : Nat) (L2 : List Cr) (im : Int32) (X : Nat) (T : List Nat) (tC : Nat → List Int32) (tE : Nat → Nat → Nat) (sh : Nat → Int32 × List Int32) (v : Nat → Int32) (t : Int64) (f : Nat → Nat → Int32) (ws : va_W) : Prop :=
  ∃ B, bkP B ws ∧ B 25 = mW E b v t f ∧ CB E a D r L D2 r2 L2 im X T tC tE sh B
section S9k
variable {E : GE} {M : GM} {d mc ms : Nat} {ws : va_W} {av : List Value} {a b : Nat → Nat} {D D2 : Dg} {r r2 : Nat} {L L2 : List Cr} {im : Int32} {X : Nat} {T : List Nat} {tC : Nat → List Int32} {tE : Nat → Nat → Nat} {sh : Nat → Int32 × List Int32} {v : Nat → Int32} {t : Int64} {f : Nat → Nat → Int32}
theorem bkP.mem {B : Nat → va_W} (hp : bkP B ws) {i : Nat} (hi : i < 26) {q : Nat × va_E} (hq : q ∈ B i) : ∃ j : Nat, ws[j]? = some q :=
  List.getElem?_of_mem (hp.mem_iff.mpr (List.mem_flatMap.mpr ⟨i, List.mem_range.mpr hi, hq⟩))
theorem CW.rA (h : CW E a b D r L D2 r2 L2 im X T tC tE sh v t f ws) : ∃ (i : Nat) (fs : List Value), ws[i]? = some (a 0, .inr (6, fs)) := by
  obtain ⟨B, hp, hb, c0, -⟩ := h
  obtain ⟨j, hj⟩ := bkP.mem hp (i := 0) (by omega) (q := (a 0, dolO a im (nI X))) (by rw [c0]; exact List.mem_cons_self)
  exact ⟨j, _, hj⟩
theorem CW.rB (h : CW E a b D r L D2 r2 L2 im X T tC tE sh v t f ws) : ∃ (i : Nat) (fs : List Value), ws[i]? = some (b 0, .inr (7, fs)) := by
  obtain ⟨B, hp, hb, -⟩ := h
  obtain ⟨j, hj⟩ := bkP.mem hp (i := 25) (by omega) (q := (b 0, .inr (7, mF b v t))) (by rw [hb]; exact List.mem_cons_self)
  exact ⟨j, _, hj⟩
theorem CW.dg (h : CW E a b D r L D2 r2 L2 im X T tC tE sh v t f ws) : dgOK D ∧ dgOK D2 ∧ L.length ≤ 40 ∧ L2.length ≤ 40 := by
  obtain ⟨B, hp, hb, c0, c1, c2, c3, c4, -⟩ := h
  exact ⟨c1.1, c3.1, c2.1, c4.1⟩
theorem CW.ml {Q : Int32 → va_W → Prop} (h : CW E a b D r L D2 r2 L2 im X T tC tE sh v t f ws) (hC : g_Ci E M d av (mW E b v t f) Q) : g_Ci E M d av ws (fun z w' => ∃ w1, Q z w1 ∧ ∀ v' t' f', w1 = mW E b v' t' f' → CW E a b D r L D2 r2 L2 im X T tC tE sh v' t' f' w') := by
  obtain ⟨B, hp, hb, c0, c1, c2, c3, c4, c5, c6, c7, c8, c9, c10, c11, c12, c13, c14, c15, c16⟩ := h
  refine (bk_liftI (is := [25]) (by decide) (by decide) hp (by rw [← hb] at hC; exact hC)).post (fun z w' hq => ?_)
  obtain ⟨w1, hQ, hB⟩ := hq
  refine ⟨w1, hQ, fun v' t' f' e => ⟨bkU B [(25, w1)], hB _ rfl (fun j hj => bkU_o hj), e, c0, c1, c2, c3, c4, c5, c6, c7, c8, c9, c10, c11, c12, c13, c14, fun i hi => ?_, fun i hi => ?_⟩⟩
  · rw [bkU_o (by simp <;> omega)]; exact c15 i hi
  · rw [bkU_o (by simp <;> omega)]; exact c16 i hi
theorem CW.mlL {Q : Int64 → va_W → Prop} (h : CW E a b D r L D2 r2 L2 im X T tC tE sh v t f ws) (hC : g_Cl E M d av (mW E b v t f) Q) : g_Cl E M d av ws (fun z w' => ∃ w1, Q z w1 ∧ ∀ v' t' f', w1 = mW E b v' t' f' → CW E a b D r L D2 r2 L2 im X T tC tE sh v' t' f' w') := by
  obtain ⟨B, hp, hb, c0, c1, c2, c3, c4, c5, c6, c7, c8, c9, c10, c11, c12, c13, c14, c15, c16⟩ := h
  refine (bk_liftL (is := [25]) (by decide) (by decide) hp (by rw [← hb] at hC; exact hC)).post (fun z w' hq => ?_)
  obtain ⟨w1, hQ, hB⟩ := hq
  refine ⟨w1, hQ, fun v' t' f' e => ⟨bkU B [(25, w1)], hB _ rfl (fun j hj => bkU_o hj), e, c0, c1, c2, c3, c4, c5, c6, c7, c8, c9, c10, c11, c12, c13, c14, fun i hi => ?_, fun i hi => ?_⟩⟩
  · rw [bkU_o (by simp <;> omega)]; exact c15 i hi
  · rw [bkU_o (by simp <;> omega)]; exact c16 i hi
set_option maxHeartbeats 1000000 in
theorem cl_Apk (h : CW E a b D r L D2 r2 L2 im X T tC tE sh v t f ws) {P : Int32 → Prop} {D' : Dg} {r' : Nat} {L' : List Cr} (hC : ∀ w, Apk E a D r L im (nI X) w → g_Ci E M d av w (fun z w' => P z ∧ Apk E a D' r' L' im (nI X) w')) : g_Ci E M d av ws (fun z w' => P z ∧ CW E a b D' r' L' D2 r2 L2 im X T tC tE sh v t f w') := by
  obtain ⟨B, hp, hb, c0, c1, c2, c3, c4, c5, c6, c7, c8, c9, c10, c11, c12, c13, c14, c15, c16⟩ := h
  have hin : Apk E a D r L im (nI X) (bkF B [0, 1, 2]) := ⟨B 1, B 2, c1, c2, (by simp only [bkF, c0, List.append_assoc, List.cons_append, List.nil_append])⟩
  refine (bk_liftI (is := [0, 1, 2]) (by decide) (by decide) hp (hC _ hin)).post (fun z w' hq => ?_)
  obtain ⟨w1, ⟨hP, wp, wr, n1, n2, rfl⟩, hB⟩ := hq
  generalize hl : ([(0, [(a 0, dolO a im (nI X))]), (1, wp), (2, wr)] : List (Nat × va_W)) = l
  have hm : l.map (fun q => q.1) = [0, 1, 2] := by rw [← hl]; rfl
  have e0 : bkU B l (0) = [(a 0, dolO a im (nI X))] := bkU_at (by rw [hm]; decide) (by rw [← hl]; simp)
  have e1 : bkU B l (1) = wp := bkU_at (by rw [hm]; decide) (by rw [← hl]; simp)
  have e2 : bkU B l (2) = wr := bkU_at (by rw [hm]; decide) (by rw [← hl]; simp)
  have eo : ∀ j, ¬ j ∈ [0, 1, 2] → bkU B l j = B j := fun j hj => bkU_o (by rw [hm]; exact hj)
  exact ⟨hP, bkU B l, hB _ (by simp only [bkF, e0, e1, e2, List.append_assoc, List.cons_append, List.nil_append]) eo, (by rw [eo 25 (by decide)]; exact hb), (by rw [e0]), (by rw [e1]; exact n1), (by rw [e2]; exact n2), (by rw [eo 3 (by decide)]; exact c3), (by rw [eo 4 (by decide)]; exact c4), (by rw [eo 5 (by decide)]; exact c5), (by rw [eo 6 (by decide)]; exact c6), (by rw [eo 7 (by decide)]; exact c7), (by rw [eo 8 (by decide)]; exact c8), (by rw [eo 9 (by decide)]; exact c9), (by rw [eo 10 (by decide)]; exact c10), (by rw [eo 11 (by decide)]; exact c11), (by rw [eo 12 (by decide)]; exact c12), (by rw [eo 13 (by decide)]; exact c13), (by rw [eo 14 (by decide)]; exact c14), (fun i hi => by rw [eo _ (by simp <;> omega)]; exact c15 i hi), (fun i hi => by rw [eo _ (by simp <;> omega)]; exact c16 i hi)⟩
set_option maxHeartbeats 1000000 in
theorem cl_Atg (h : CW E a b D r L D2 r2 L2 im X T tC tE sh v t f ws) {P : Int32 → Prop} {D' : Dg} {r' : Nat} {L' : List Cr} (hC : ∀ Lt w, Atg E a D r L Lt im (nI X) w → g_Ci E M d av w (fun z w' => P z ∧ ∃ Lt2, Atg E a D' r' L' Lt2 im (nI X) w')) : g_Ci E M d av ws (fun z w' => P z ∧ CW E a b D' r' L' D2 r2 L2 im X T tC tE sh v t f w') := by
  obtain ⟨B, hp, hb, c0, c1, c2, c3, c4, c5, c6, c7, c8, c9, c10, c11, c12, c13, c14, c15, c16⟩ := h
  obtain ⟨Lt, k5⟩ := c5
  have hin : Atg E a D r L Lt im (nI X) (bkF B [0, 1, 2, 5]) := ⟨B 1, B 2, B 5, c1, c2, k5, (by simp only [bkF, c0, List.append_assoc, List.cons_append, List.nil_append])⟩
  refine (bk_liftI (is := [0, 1, 2, 5]) (by decide) (by decide) hp (hC _ _ hin)).post (fun z w' hq => ?_)
  obtain ⟨w1, ⟨hP, Lt2, wp, wr, wt, n1, n2, n5, rfl⟩, hB⟩ := hq
  generalize hl : ([(0, [(a 0, dolO a im (nI X))]), (1, wp), (2, wr), (5, wt)] : List (Nat × va_W)) = l
  have hm : l.map (fun q => q.1) = [0, 1, 2, 5] := by rw [← hl]; rfl
  have e0 : bkU B l (0) = [(a 0, dolO a im (nI X))] := bkU_at (by rw [hm]; decide) (by rw [← hl]; simp)
  have e1 : bkU B l (1) = wp := bkU_at (by rw [hm]; decide) (by rw [← hl]; simp)
  have e2 : bkU B l (2) = wr := bkU_at (by rw [hm]; decide) (by rw [← hl]; simp)
  have e3 : bkU B l (5) = wt := bkU_at (by rw [hm]; decide) (by rw [← hl]; simp)
  have eo : ∀ j, ¬ j ∈ [0, 1, 2, 5] → bkU B l j = B j := fun j hj => bkU_o (by rw [hm]; exact hj)
  exact ⟨hP, bkU B l, hB _ (by simp only [bkF, e0, e1, e2, e3, List.append_assoc, List.cons_append, List.nil_append]) eo, (by rw [eo 25 (by decide)]; exact hb), (by rw [e0]), (by rw [e1]; exact n1), (by rw [e2]; exact n2), (by rw [eo 3 (by decide)]; exact c3), (by rw [eo 4 (by decide)]; exact c4), ⟨Lt2, (by rw [e3]; exact n5)⟩, (by rw [eo 6 (by decide)]; exact c6), (by rw [eo 7 (by decide)]; exact c7), (by rw [eo 8 (by decide)]; exact c8), (by rw [eo 9 (by decide)]; exact c9), (by rw [eo 10 (by decide)]; exact c10), (by rw [eo 11 (by decide)]; exact c11), (by rw [eo 12 (by decide)]; exact c12), (by rw [eo 13 (by decide)]; exact c13), (by rw [eo 14 (by decide)]; exact c14), (fun i hi => by rw [eo _ (by simp <;> omega)]; exact c15 i hi), (fun i hi => by rw [eo _ (by simp <;> omega)]; exact c16 i hi)⟩
set_option maxHeartbeats 1000000 in
theorem cl_Ath (h : CW E a b D r L D2 r2 L2 im X T tC tE sh v t f ws) {P : Int32 → Prop} {D' : Dg} {r' : Nat} {L' : List Cr} (hC : ∀ w, Ath E a D r L im (nI X) w → g_Ci E M d av w (fun z w' => P z ∧ Ath E a D' r' L' im (nI X) w')) : g_Ci E M d av ws (fun z w' => P z ∧ CW E a b D' r' L' D2 r2 L2 im X T tC tE sh v t f w') := by
  obtain ⟨B, hp, hb, c0, c1, c2, c3, c4, c5, c6, c7, c8, c9, c10, c11, c12, c13, c14, c15, c16⟩ := h
  obtain ⟨Lt, k6⟩ := c6
  have hin : Ath E a D r L im (nI X) (bkF B [0, 1, 2, 6]) := ⟨_, B 6, Lt, ⟨B 1, B 2, c1, c2, rfl⟩, k6, (by simp only [bkF, c0, List.append_assoc, List.cons_append, List.nil_append])⟩
  refine (bk_liftI (is := [0, 1, 2, 6]) (by decide) (by decide) hp (hC _ hin)).post (fun z w' hq => ?_)
  obtain ⟨w1, ⟨hP, w2, wt, Lt2, ⟨wp, wr, n1, n2, rfl⟩, n6, rfl⟩, hB⟩ := hq
  generalize hl : ([(0, [(a 0, dolO a im (nI X))]), (1, wp), (2, wr), (6, wt)] : List (Nat × va_W)) = l
  have hm : l.map (fun q => q.1) = [0, 1, 2, 6] := by rw [← hl]; rfl
  have e0 : bkU B l (0) = [(a 0, dolO a im (nI X))] := bkU_at (by rw [hm]; decide) (by rw [← hl]; simp)
  have e1 : bkU B l (1) = wp := bkU_at (by rw [hm]; decide) (by rw [← hl]; simp)
  have e2 : bkU B l (2) = wr := bkU_at (by rw [hm]; decide) (by rw [← hl]; simp)
  have e3 : bkU B l (6) = wt := bkU_at (by rw [hm]; decide) (by rw [← hl]; simp)
  have eo : ∀ j, ¬ j ∈ [0, 1, 2, 6] → bkU B l j = B j := fun j hj => bkU_o (by rw [hm]; exact hj)
  exact ⟨hP, bkU B l, hB _ (by simp only [bkF, e0, e1, e2, e3, List.append_assoc, List.cons_append, List.nil_append]) eo, (by rw [eo 25 (by decide)]; exact hb), (by rw [e0]), (by rw [e1]; exact n1), (by rw [e2]; exact n2), (by rw [eo 3 (by decide)]; exact c3), (by rw [eo 4 (by decide)]; exact c4), (by rw [eo 5 (by decide)]; exact c5), ⟨Lt2, (by rw [e3]; exact n6)⟩, (by rw [eo 7 (by decide)]; exact c7), (by rw [eo 8 (by decide)]; exact c8), (by rw [eo 9 (by decide)]; exact c9), (by rw [eo 10 (by decide)]; exact c10), (by rw [eo 11 (by decide)]; exact c11), (by rw [eo 12 (by decide)]; exact c12), (by rw [eo 13 (by decide)]; exact c13), (by rw [eo 14 (by decide)]; exact c14), (fun i hi => by rw [eo _ (by simp <;> omega)]; exact c15 i hi), (fun i hi => by rw [eo _ (by simp <;> omega)]; exact c16 i hi)⟩
set_option maxHeartbeats 1000000 in
theorem cl_AthL (h : CW E a b D r L D2 r2 L2 im X T tC tE sh v t f ws) {P : Int64 → Prop} {D' : Dg} {r' : Nat} {L' : List Cr} (hC : ∀ w, Ath E a D r L im (nI X) w → g_Cl E M d av w (fun z w' => P z ∧ Ath E a D' r' L' im (nI X) w')) : g_Cl E M d av ws (fun z w' => P z ∧ CW E a b D' r' L' D2 r2 L2 im X T tC tE sh v t f w') := by
  obtain ⟨B, hp, hb, c0, c1, c2, c3, c4, c5, c6, c7, c8, c9, c10, c11, c12, c13, c14, c15, c16⟩ := h
  obtain ⟨Lt, k6⟩ := c6
  have hin : Ath E a D r L im (nI X) (bkF B [0, 1, 2, 6]) := ⟨_, B 6, Lt, ⟨B 1, B 2, c1, c2, rfl⟩, k6, (by simp only [bkF, c0, List.append_assoc, List.cons_append, List.nil_append])⟩
  refine (bk_liftL (is := [0, 1, 2, 6]) (by decide) (by decide) hp (hC _ hin)).post (fun z w' hq => ?_)
  obtain ⟨w1, ⟨hP, w2, wt, Lt2, ⟨wp, wr, n1, n2, rfl⟩, n6, rfl⟩, hB⟩ := hq
  generalize hl : ([(0, [(a 0, dolO a im (nI X))]), (1, wp), (2, wr), (6, wt)] : List (Nat × va_W)) = l
  have hm : l.map (fun q => q.1) = [0, 1, 2, 6] := by rw [← hl]; rfl
  have e0 : bkU B l (0) = [(a 0, dolO a im (nI X))] := bkU_at (by rw [hm]; decide) (by rw [← hl]; simp)
  have e1 : bkU B l (1) = wp := bkU_at (by rw [hm]; decide) (by rw [← hl]; simp)
  have e2 : bkU B l (2) = wr := bkU_at (by rw [hm]; decide) (by rw [← hl]; simp)
  have e3 : bkU B l (6) = wt := bkU_at (by rw [hm]; decide) (by rw [← hl]; simp)
  have eo : ∀ j, ¬ j ∈ [0, 1, 2, 6] → bkU B l j = B j := fun j hj => bkU_o (by rw [hm]; exact hj)
  exact ⟨hP, bkU B l, hB _ (by simp only [bkF, e0, e1, e2, e3, List.append_assoc, List.cons_append, List.nil_append]) eo, (by rw [eo 25 (by decide)]; exact hb), (by rw [e0]), (by rw [e1]; exact n1), (by rw [e2]; exact n2), (by rw [eo 3 (by decide)]; exact c3), (by rw [eo 4 (by decide)]; exact c4), (by rw [eo 5 (by decide)]; exact c5), ⟨Lt2, (by rw [e3]; exact n6)⟩, (by rw [eo 7 (by decide)]; exact c7), (by rw [eo 8 (by decide)]; exact c8), (by rw [eo 9 (by decide)]; exact c9), (by rw [eo 10 (by decide)]; exact c10), (by rw [eo 11 (by decide)]; exact c11), (by rw [eo 12 (by decide)]; exact c12), (by rw [eo 13 (by decide)]; exact c13), (by rw [eo 14 (by decide)]; exact c14), (fun i hi => by rw [eo _ (by simp <;> omega)]; exact c15 i hi), (fun i hi => by rw [eo _ (by simp <;> omega)]; exact c16 i hi)⟩
set_option maxHeartbeats 1000000 in
theorem cl_Arl (h : CW E a b D r L D2 r2 L2 im X T tC tE sh v t f ws) (hr6 : r < 6) (hok : txtOK (tC r) (tE r)) {P : Int32 → Prop} (hC : ∀ w, Arl E a D r L im (nI X) (tC r) (tE r) w → g_Ci E M d av w (fun z w' => P z ∧ Arl E a D r L im (nI X) (tC r) (tE r) w')) : g_Ci E M d av ws (fun z w' => P z ∧ CW E a b D r L D2 r2 L2 im X T tC tE sh v t f w') := by
  obtain ⟨B, hp, hb, c0, c1, c2, c3, c4, c5, c6, c7, c8, c9, c10, c11, c12, c13, c14, c15, c16⟩ := h
  obtain ⟨nm, k11⟩ := c11
  have hin : Arl E a D r L im (nI X) (tC r) (tE r) (bkF B [0, 1, 2, 10, 11, 15 + r]) := ⟨_, nm, B (15 + r), ⟨B 1, B 2, c1, c2, rfl⟩, hr6, hok, c15 r hr6, (by simp only [bkF, c0, c10, k11, List.append_assoc, List.cons_append, List.nil_append])⟩
  refine (bk_liftI (is := [0, 1, 2, 10, 11, 15 + r]) (by simp <;> omega) (by simp <;> omega) hp (hC _ hin)).post (fun z w' hq => ?_)
  obtain ⟨w1, ⟨hP, w2, nm2, wt, ⟨wp, wr, n1, n2, rfl⟩, -, -, n15, rfl⟩, hB⟩ := hq
  generalize hl : ([(0, [(a 0, dolO a im (nI X))]), (1, wp), (2, wr), (10, [(a 48, raT E a)]), (11, [(a 49, ia E 6 nm2)]), (15 + r, wt)] : List (Nat × va_W)) = l
  have hm : l.map (fun q => q.1) = [0, 1, 2, 10, 11, 15 + r] := by rw [← hl]; rfl
  have e0 : bkU B l (0) = [(a 0, dolO a im (nI X))] := bkU_at (by rw [hm]; exact (by simp <;> omega)) (by rw [← hl]; simp)
  have e1 : bkU B l (1) = wp := bkU_at (by rw [hm]; exact (by simp <;> omega)) (by rw [← hl]; simp)
  have e2 : bkU B l (2) = wr := bkU_at (by rw [hm]; exact (by simp <;> omega)) (by rw [← hl]; simp)
  have e3 : bkU B l (10) = [(a 48, raT E a)] := bkU_at (by rw [hm]; exact (by simp <;> omega)) (by rw [← hl]; simp)
  have e4 : bkU B l (11) = [(a 49, ia E 6 nm2)] := bkU_at (by rw [hm]; exact (by simp <;> omega)) (by rw [← hl]; simp)
  have e5 : bkU B l (15 + r) = wt := bkU_at (by rw [hm]; exact (by simp <;> omega)) (by rw [← hl]; simp)
  have eo : ∀ j, ¬ j ∈ [0, 1, 2, 10, 11, 15 + r] → bkU B l j = B j := fun j hj => bkU_o (by rw [hm]; exact hj)
  exact ⟨hP, bkU B l, hB _ (by simp only [bkF, e0, e1, e2, e3, e4, e5, List.append_assoc, List.cons_append, List.nil_append]) eo, (by rw [eo 25 (by simp <;> omega)]; exact hb), (by rw [e0]), (by rw [e1]; exact n1), (by rw [e2]; exact n2), (by rw [eo 3 (by simp <;> omega)]; exact c3), (by rw [eo 4 (by simp <;> omega)]; exact c4), (by rw [eo 5 (by simp <;> omega)]; exact c5), (by rw [eo 6 (by simp <;> omega)]; exact c6), (by rw [eo 7 (by simp <;> omega)]; exact c7), (by rw [eo 8 (by simp <;> omega)]; exact c8), (by rw [eo 9 (by simp <;> omega)]; exact c9), (by rw [e3]), ⟨nm2, (by rw [e4])⟩, (by rw [eo 12 (by simp <;> omega)]; exact c12), (by rw [eo 13 (by simp <;> omega)]; exact c13), (by rw [eo 14 (by simp <;> omega)]; exact c14), (fun i hi => by by_cases q : i = r; (· subst q; rw [e5]; exact n15); (· rw [eo _ (by simp <;> omega)]; exact c15 i hi)), (fun i hi => by rw [eo _ (by simp <;> omega)]; exact c16 i hi)⟩
set_option maxHeartbeats 1000000 in
theorem cl_Acs (h : CW E a b D r L D2 r2 L2 im X T tC tE sh v t f ws) (hr6 : r < 6) (hok : txtOK (tC r) (tE r)) {P : Int32 → Prop} (hC : ∀ Lt w, Acs E a D r L im (nI X) (tC r) (tE r) Lt w → g_Ci E M d av w (fun z w' => P z ∧ ∃ Lt2, Acs E a D r L im (nI X) (tC r) (tE r) Lt2 w')) : g_Ci E M d av ws (fun z w' => P z ∧ CW E a b D r L D2 r2 L2 im X T tC tE sh v t f w') := by
  obtain ⟨B, hp, hb, c0, c1, c2, c3, c4, c5, c6, c7, c8, c9, c10, c11, c12, c13, c14, c15, c16⟩ := h
  obtain ⟨nm, k11⟩ := c11
  obtain ⟨Lt, k5⟩ := c5
  have hin : Acs E a D r L im (nI X) (tC r) (tE r) Lt (bkF B [0, 1, 2, 10, 11, 15 + r, 5]) := ⟨_, B 5, ⟨_, nm, B (15 + r), ⟨B 1, B 2, c1, c2, rfl⟩, hr6, hok, c15 r hr6, rfl⟩, k5, (by simp only [bkF, c0, c10, k11, List.append_assoc, List.cons_append, List.nil_append])⟩
  refine (bk_liftI (is := [0, 1, 2, 10, 11, 15 + r, 5]) (by simp <;> omega) (by simp <;> omega) hp (hC _ _ hin)).post (fun z w' hq => ?_)
  obtain ⟨w1, ⟨hP, Lt2, w3, wt5, ⟨w2, nm2, wt, ⟨wp, wr, n1, n2, rfl⟩, -, -, n15, rfl⟩, n5, rfl⟩, hB⟩ := hq
  generalize hl : ([(0, [(a 0, dolO a im (nI X))]), (1, wp), (2, wr), (10, [(a 48, raT E a)]), (11, [(a 49, ia E 6 nm2)]), (15 + r, wt), (5, wt5)] : List (Nat × va_W)) = l
  have hm : l.map (fun q => q.1) = [0, 1, 2, 10, 11, 15 + r, 5] := by rw [← hl]; rfl
  have e0 : bkU B l (0) = [(a 0, dolO a im (nI X))] := bkU_at (by rw [hm]; exact (by simp <;> omega)) (by rw [← hl]; simp)
  have e1 : bkU B l (1) = wp := bkU_at (by rw [hm]; exact (by simp <;> omega)) (by rw [← hl]; simp)
  have e2 : bkU B l (2) = wr := bkU_at (by rw [hm]; exact (by simp <;> omega)) (by rw [← hl]; simp)
  have e3 : bkU B l (10) = [(a 48, raT E a)] := bkU_at (by rw [hm]; exact (by simp <;> omega)) (by rw [← hl]; simp)
  have e4 : bkU B l (11) = [(a 49, ia E 6 nm2)] := bkU_at (by rw [hm]; exact (by simp <;> omega)) (by rw [← hl]; simp)
  have e5 : bkU B l (15 + r) = wt := bkU_at (by rw [hm]; exact (by simp <;> omega)) (by rw [← hl]; simp)
  have e6 : bkU B l (5) = wt5 := bkU_at (by rw [hm]; exact (by simp <;> omega)) (by rw [← hl]; simp)
  have eo : ∀ j, ¬ j ∈ [0, 1, 2, 10, 11, 15 + r, 5] → bkU B l j = B j := fun j hj => bkU_o (by rw [hm]; exact hj)
  exact ⟨hP, bkU B l, hB _ (by simp only [bkF, e0, e1, e2, e3, e4, e5, e6, List.append_assoc, List.cons_append, List.nil_append]) eo, (by rw [eo 25 (by simp <;> omega)]; exact hb), (by rw [e0]), (by rw [e1]; exact n1), (by rw [e2]; exact n2), (by rw [eo 3 (by simp <;> omega)]; exact c3), (by rw [eo 4 (by simp <;> omega)]; exact c4), ⟨Lt2, (by rw [e6]; exact n5)⟩, (by rw [eo 6 (by simp <;> omega)]; exact c6), (by rw [eo 7 (by simp <;> omega)]; exact c7), (by rw [eo 8 (by simp <;> omega)]; exact c8), (by rw [eo 9 (by simp <;> omega)]; exact c9), (by rw [e3]), ⟨nm2, (by rw [e4])⟩, (by rw [eo 12 (by simp <;> omega)]; exact c12), (by rw [eo 13 (by simp <;> omega)]; exact c13), (by rw [eo 14 (by simp <;> omega)]; exact c14), (fun i hi => by by_cases q : i = r; (· subst q; rw [e5]; exact n15); (· rw [eo _ (by simp <;> omega)]; exact c15 i hi)), (fun i hi => by rw [eo _ (by simp <;> omega)]; exact c16 i hi)⟩
set_option maxHeartbeats 1000000 in
theorem cl_Aor (h : CW E a b D r L D2 r2 L2 im X T tC tE sh v t f ws) (hr6 : r < 6) (hok : txtOK (tC r) (tE r)) {P : Int32 → Prop} (hC : ∀ F w, Aor E a D r L im (nI X) (tC r) (tE r) F w → g_Ci E M d av w (fun z w' => P z ∧ ∃ F2, Aor E a D r L im (nI X) (tC r) (tE r) F2 w')) : g_Ci E M d av ws (fun z w' => P z ∧ CW E a b D r L D2 r2 L2 im X T tC tE sh v t f w') := by
  obtain ⟨B, hp, hb, c0, c1, c2, c3, c4, c5, c6, c7, c8, c9, c10, c11, c12, c13, c14, c15, c16⟩ := h
  obtain ⟨nm, k11⟩ := c11
  obtain ⟨en, fd, pr, tr, n0, le, k7⟩ := c7
  let F : List Nat := []
  have hin : Aor E a D r L im (nI X) (tC r) (tE r) F (bkF B [0, 1, 2, 10, 11, 15 + r, 7]) := ⟨_, en, fd, pr, tr, n0, le, ⟨_, nm, B (15 + r), ⟨B 1, B 2, c1, c2, rfl⟩, hr6, hok, c15 r hr6, rfl⟩, (fun i x h => absurd (show (none : Option Nat) = some x from h) (by simp)), (by simp only [bkF, c0, c10, k11, k7, List.append_assoc, List.cons_append, List.nil_append])⟩
  refine (bk_liftI (is := [0, 1, 2, 10, 11, 15 + r, 7]) (by simp <;> omega) (by simp <;> omega) hp (hC _ _ hin)).post (fun z w' hq => ?_)
  obtain ⟨w1, ⟨hP, F2, w3, en2, fd2, pr2, tr2, n2_, le2, ⟨w2, nm2, wt, ⟨wp, wr, n1, n2, rfl⟩, -, -, n15, rfl⟩, -, rfl⟩, hB⟩ := hq
  generalize hl : ([(0, [(a 0, dolO a im (nI X))]), (1, wp), (2, wr), (10, [(a 48, raT E a)]), (11, [(a 49, ia E 6 nm2)]), (15 + r, wt), (7, ordW E a 37 en2 fd2 pr2 tr2 n2_ le2)] : List (Nat × va_W)) = l
  have hm : l.map (fun q => q.1) = [0, 1, 2, 10, 11, 15 + r, 7] := by rw [← hl]; rfl
  have e0 : bkU B l (0) = [(a 0, dolO a im (nI X))] := bkU_at (by rw [hm]; exact (by simp <;> omega)) (by rw [← hl]; simp)
  have e1 : bkU B l (1) = wp := bkU_at (by rw [hm]; exact (by simp <;> omega)) (by rw [← hl]; simp)
  have e2 : bkU B l (2) = wr := bkU_at (by rw [hm]; exact (by simp <;> omega)) (by rw [← hl]; simp)
  have e3 : bkU B l (10) = [(a 48, raT E a)] := bkU_at (by rw [hm]; exact (by simp <;> omega)) (by rw [← hl]; simp)
  have e4 : bkU B l (11) = [(a 49, ia E 6 nm2)] := bkU_at (by rw [hm]; exact (by simp <;> omega)) (by rw [← hl]; simp)
  have e5 : bkU B l (15 + r) = wt := bkU_at (by rw [hm]; exact (by simp <;> omega)) (by rw [← hl]; simp)
  have e6 : bkU B l (7) = ordW E a 37 en2 fd2 pr2 tr2 n2_ le2 := bkU_at (by rw [hm]; exact (by simp <;> omega)) (by rw [← hl]; simp)
  have eo : ∀ j, ¬ j ∈ [0, 1, 2, 10, 11, 15 + r, 7] → bkU B l j = B j := fun j hj => bkU_o (by rw [hm]; exact hj)
  exact ⟨hP, bkU B l, hB _ (by simp only [bkF, e0, e1, e2, e3, e4, e5, e6, List.append_assoc, List.cons_append, List.nil_append]) eo, (by rw [eo 25 (by simp <;> omega)]; exact hb), (by rw [e0]), (by rw [e1]; exact n1), (by rw [e2]; exact n2), (by rw [eo 3 (by simp <;> omega)]; exact c3), (by rw [eo 4 (by simp <;> omega)]; exact c4), (by rw [eo 5 (by simp <;> omega)]; exact c5), (by rw [eo 6 (by simp <;> omega)]; exact c6), ⟨_, _, _, _, _, _, e6⟩, (by rw [eo 8 (by simp <;> omega)]; exact c8), (by rw [eo 9 (by simp <;> omega)]; exact c9), (by rw [e3]), ⟨nm2, (by rw [e4])⟩, (by rw [eo 12 (by simp <;> omega)]; exact c12), (by rw [eo 13 (by simp <;> omega)]; exact c13), (by rw [eo 14 (by simp <;> omega)]; exact c14), (fun i hi => by by_cases q : i = r; (· subst q; rw [e5]; exact n15); (· rw [eo _ (by simp <;> omega)]; exact c15 i hi)), (fun i hi => by rw [eo _ (by simp <;> omega)]; exact c16 i hi)⟩
set_option maxHeartbeats 1000000 in
theorem cl_Awt (h : CW E a b D r L D2 r2 L2 im X T tC tE sh v t f ws) (hr6 : r < 6) (hok : txtOK (tC r) (tE r)) {P : Int32 → Prop} (hC : ∀ wo w, Awt E a D r L im (nI X) (tC r) (tE r) wo w → g_Ci E M d av w (fun z w' => P z ∧ ∃ wo2, Awt E a D r L im (nI X) (tC r) (tE r) wo2 w')) : g_Ci E M d av ws (fun z w' => P z ∧ CW E a b D r L D2 r2 L2 im X T tC tE sh v t f w') := by
  obtain ⟨B, hp, hb, c0, c1, c2, c3, c4, c5, c6, c7, c8, c9, c10, c11, c12, c13, c14, c15, c16⟩ := h
  obtain ⟨nm, k11⟩ := c11
  obtain ⟨wo, k14⟩ := c14
  have hin : Awt E a D r L im (nI X) (tC r) (tE r) wo (bkF B [0, 1, 2, 10, 11, 15 + r, 14]) := ⟨_, ⟨_, nm, B (15 + r), ⟨B 1, B 2, c1, c2, rfl⟩, hr6, hok, c15 r hr6, rfl⟩, (by simp only [bkF, c0, c10, k11, k14, List.append_assoc, List.cons_append, List.nil_append])⟩
  refine (bk_liftI (is := [0, 1, 2, 10, 11, 15 + r, 14]) (by simp <;> omega) (by simp <;> omega) hp (hC _ _ hin)).post (fun z w' hq => ?_)
  obtain ⟨w1, ⟨hP, wo2, w3, ⟨w2, nm2, wt, ⟨wp, wr, n1, n2, rfl⟩, -, -, n15, rfl⟩, rfl⟩, hB⟩ := hq
  generalize hl : ([(0, [(a 0, dolO a im (nI X))]), (1, wp), (2, wr), (10, [(a 48, raT E a)]), (11, [(a 49, ia E 6 nm2)]), (15 + r, wt), (14, [(a 53, ia E 36 wo2)])] : List (Nat × va_W)) = l
  have hm : l.map (fun q => q.1) = [0, 1, 2, 10, 11, 15 + r, 14] := by rw [← hl]; rfl
  have e0 : bkU B l (0) = [(a 0, dolO a im (nI X))] := bkU_at (by rw [hm]; exact (by simp <;> omega)) (by rw [← hl]; simp)
  have e1 : bkU B l (1) = wp := bkU_at (by rw [hm]; exact (by simp <;> omega)) (by rw [← hl]; simp)
  have e2 : bkU B l (2) = wr := bkU_at (by rw [hm]; exact (by simp <;> omega)) (by rw [← hl]; simp)
  have e3 : bkU B l (10) = [(a 48, raT E a)] := bkU_at (by rw [hm]; exact (by simp <;> omega)) (by rw [← hl]; simp)
  have e4 : bkU B l (11) = [(a 49, ia E 6 nm2)] := bkU_at (by rw [hm]; exact (by simp <;> omega)) (by rw [← hl]; simp)
  have e5 : bkU B l (15 + r) = wt := bkU_at (by rw [hm]; exact (by simp <;> omega)) (by rw [← hl]; simp)
  have e6 : bkU B l (14) = [(a 53, ia E 36 wo2)] := bkU_at (by rw [hm]; exact (by simp <;> omega)) (by rw [← hl]; simp)
  have eo : ∀ j, ¬ j ∈ [0, 1, 2, 10, 11, 15 + r, 14] → bkU B l j = B j := fun j hj => bkU_o (by rw [hm]; exact hj)
  exact ⟨hP, bkU B l, hB _ (by simp only [bkF, e0, e1, e2, e3, e4, e5, e6, List.append_assoc, List.cons_append, List.nil_append]) eo, (by rw [eo 25 (by simp <;> omega)]; exact hb), (by rw [e0]), (by rw [e1]; exact n1), (by rw [e2]; exact n2), (by rw [eo 3 (by simp <;> omega)]; exact c3), (by rw [eo 4 (by simp <;> omega)]; exact c4), (by rw [eo 5 (by simp <;> omega)]; exact c5), (by rw [eo 6 (by simp <;> omega)]; exact c6), (by rw [eo 7 (by simp <;> omega)]; exact c7), (by rw [eo 8 (by simp <;> omega)]; exact c8), (by rw [eo 9 (by simp <;> omega)]; exact c9), (by rw [e3]), ⟨nm2, (by rw [e4])⟩, (by rw [eo 12 (by simp <;> omega)]; exact c12), (by rw [eo 13 (by simp <;> omega)]; exact c13), ⟨_, e6⟩, (fun i hi => by by_cases q : i = r; (· subst q; rw [e5]; exact n15); (· rw [eo _ (by simp <;> omega)]; exact c15 i hi)), (fun i hi => by rw [eo _ (by simp <;> omega)]; exact c16 i hi)⟩
set_option maxHeartbeats 1000000 in
theorem cl_Afo (h : CW E a b D r L D2 r2 L2 im X T tC tE sh v t f ws) {P : Int32 → Prop} (hC : ∀ F w, Afo E a D r L im (nI X) F w → g_Ci E M d av w (fun z w' => P z ∧ ∃ F2, Afo E a D r L im (nI X) F2 w')) : g_Ci E M d av ws (fun z w' => P z ∧ CW E a b D r L D2 r2 L2 im X T tC tE sh v t f w') := by
  obtain ⟨B, hp, hb, c0, c1, c2, c3, c4, c5, c6, c7, c8, c9, c10, c11, c12, c13, c14, c15, c16⟩ := h
  obtain ⟨en, fd, pr, tr, n0, le, k7⟩ := c7
  let F : List Nat := []
  have hin : Afo E a D r L im (nI X) F (bkF B [0, 1, 2, 7]) := ⟨_, en, fd, pr, tr, n0, le, ⟨B 1, B 2, c1, c2, rfl⟩, (fun i x h => absurd (show (none : Option Nat) = some x from h) (by simp)), (by simp only [bkF, c0, k7, List.append_assoc, List.cons_append, List.nil_append])⟩
  refine (bk_liftI (is := [0, 1, 2, 7]) (by decide) (by decide) hp (hC _ _ hin)).post (fun z w' hq => ?_)
  obtain ⟨w1, ⟨hP, F2, w3, en2, fd2, pr2, tr2, n2_, le2, ⟨wp, wr, n1, n2, rfl⟩, -, rfl⟩, hB⟩ := hq
  generalize hl : ([(0, [(a 0, dolO a im (nI X))]), (1, wp), (2, wr), (7, ordW E a 37 en2 fd2 pr2 tr2 n2_ le2)] : List (Nat × va_W)) = l
  have hm : l.map (fun q => q.1) = [0, 1, 2, 7] := by rw [← hl]; rfl
  have e0 : bkU B l (0) = [(a 0, dolO a im (nI X))] := bkU_at (by rw [hm]; decide) (by rw [← hl]; simp)
  have e1 : bkU B l (1) = wp := bkU_at (by rw [hm]; decide) (by rw [← hl]; simp)
  have e2 : bkU B l (2) = wr := bkU_at (by rw [hm]; decide) (by rw [← hl]; simp)
  have e3 : bkU B l (7) = ordW E a 37 en2 fd2 pr2 tr2 n2_ le2 := bkU_at (by rw [hm]; decide) (by rw [← hl]; simp)
  have eo : ∀ j, ¬ j ∈ [0, 1, 2, 7] → bkU B l j = B j := fun j hj => bkU_o (by rw [hm]; exact hj)
  exact ⟨hP, bkU B l, hB _ (by simp only [bkF, e0, e1, e2, e3, List.append_assoc, List.cons_append, List.nil_append]) eo, (by rw [eo 25 (by decide)]; exact hb), (by rw [e0]), (by rw [e1]; exact n1), (by rw [e2]; exact n2), (by rw [eo 3 (by decide)]; exact c3), (by rw [eo 4 (by decide)]; exact c4), (by rw [eo 5 (by decide)]; exact c5), (by rw [eo 6 (by decide)]; exact c6), ⟨_, _, _, _, _, _, e3⟩, (by rw [eo 8 (by decide)]; exact c8), (by rw [eo 9 (by decide)]; exact c9), (by rw [eo 10 (by decide)]; exact c10), (by rw [eo 11 (by decide)]; exact c11), (by rw [eo 12 (by decide)]; exact c12), (by rw [eo 13 (by decide)]; exact c13), (by rw [eo 14 (by decide)]; exact c14), (fun i hi => by rw [eo _ (by simp <;> omega)]; exact c15 i hi), (fun i hi => by rw [eo _ (by simp <;> omega)]; exact c16 i hi)⟩
set_option maxHeartbeats 1000000 in
theorem cl_Akp (h : CW E a b D r L D2 r2 L2 im X T tC tE sh v t f ws) {P : Int32 → Prop} {D' D2' : Dg} {r' r2' : Nat} {L' L2' : List Cr} {im' : Int32} (hC : ∀ w, Akp E a D r L D2 r2 L2 im (nI X) w → g_Ci E M d av w (fun z w' => P z ∧ Akp E a D' r' L' D2' r2' L2' im' (nI X) w')) : g_Ci E M d av ws (fun z w' => P z ∧ CW E a b D' r' L' D2' r2' L2' im' X T tC tE sh v t f w') := by
  obtain ⟨B, hp, hb, c0, c1, c2, c3, c4, c5, c6, c7, c8, c9, c10, c11, c12, c13, c14, c15, c16⟩ := h
  have hin : Akp E a D r L D2 r2 L2 im (nI X) (bkF B [0, 1, 2, 3, 4]) := ⟨B 1, B 2, B 3, B 4, c1, c2, c3, c4, (by simp only [bkF, c0, List.append_assoc, List.cons_append, List.nil_append])⟩
  refine (bk_liftI (is := [0, 1, 2, 3, 4]) (by decide) (by decide) hp (hC _ hin)).post (fun z w' hq => ?_)
  obtain ⟨w1, ⟨hP, wp, wr, wk, wl, n1, n2, n3, n4, rfl⟩, hB⟩ := hq
  generalize hl : ([(0, [(a 0, dolO a im' (nI X))]), (1, wp), (2, wr), (3, wk), (4, wl)] : List (Nat × va_W)) = l
  have hm : l.map (fun q => q.1) = [0, 1, 2, 3, 4] := by rw [← hl]; rfl
  have e0 : bkU B l (0) = [(a 0, dolO a im' (nI X))] := bkU_at (by rw [hm]; decide) (by rw [← hl]; simp)
  have e1 : bkU B l (1) = wp := bkU_at (by rw [hm]; decide) (by rw [← hl]; simp)
  have e2 : bkU B l (2) = wr := bkU_at (by rw [hm]; decide) (by rw [← hl]; simp)
  have e3 : bkU B l (3) = wk := bkU_at (by rw [hm]; decide) (by rw [← hl]; simp)
  have e4 : bkU B l (4) = wl := bkU_at (by rw [hm]; decide) (by rw [← hl]; simp)
  have eo : ∀ j, ¬ j ∈ [0, 1, 2, 3, 4] → bkU B l j = B j := fun j hj => bkU_o (by rw [hm]; exact hj)
  exact ⟨hP, bkU B l, hB _ (by simp only [bkF, e0, e1, e2, e3, e4, List.append_assoc, List.cons_append, List.nil_append]) eo, (by rw [eo 25 (by decide)]; exact hb), (by rw [e0]), (by rw [e1]; exact n1), (by rw [e2]; exact n2), (by rw [e3]; exact n3), (by rw [e4]; exact n4), (by rw [eo 5 (by decide)]; exact c5), (by rw [eo 6 (by decide)]; exact c6), (by rw [eo 7 (by decide)]; exact c7), (by rw [eo 8 (by decide)]; exact c8), (by rw [eo 9 (by decide)]; exact c9), (by rw [eo 10 (by decide)]; exact c10), (by rw [eo 11 (by decide)]; exact c11), (by rw [eo 12 (by decide)]; exact c12), (by rw [eo 13 (by decide)]; exact c13), (by rw [eo 14 (by decide)]; exact c14), (fun i hi => by rw [eo _ (by simp <;> omega)]; exact c15 i hi), (fun i hi => by rw [eo _ (by simp <;> omega)]; exact c16 i hi)⟩
set_option maxHeartbeats 1000000 in
theorem cl_Ash (h : CW E a b D r L D2 r2 L2 im X T tC tE sh v t f ws) {i : Nat} (hi : i < 4) {P : Int32 → Prop} {s' : Int32 × List Int32} (hC : ∀ w, Ash E a im (nI X) i (sh i) w → g_Ci E M d av w (fun z w' => P z ∧ Ash E a im (nI X) i s' w')) : g_Ci E M d av ws (fun z w' => P z ∧ CW E a b D r L D2 r2 L2 im X T tC tE (updS sh i s') v t f w') := by
  obtain ⟨B, hp, hb, c0, c1, c2, c3, c4, c5, c6, c7, c8, c9, c10, c11, c12, c13, c14, c15, c16⟩ := h
  have hin : Ash E a im (nI X) i (sh i) (bkF B [0, 12, 21 + i]) := ⟨hi, B (21 + i), c16 i hi, (by simp only [bkF, c0, c12, List.append_assoc, List.cons_append, List.nil_append])⟩
  refine (bk_liftI (is := [0, 12, 21 + i]) (by simp <;> omega) (by simp <;> omega) hp (hC _ hin)).post (fun z w' hq => ?_)
  obtain ⟨w1, ⟨hP, -, wS, nS, rfl⟩, hB⟩ := hq
  generalize hl : ([(0, [(a 0, dolO a im (nI X))]), (12, [(a 50, raS E a)]), (21 + i, wS)] : List (Nat × va_W)) = l
  have hm : l.map (fun q => q.1) = [0, 12, 21 + i] := by rw [← hl]; rfl
  have e0 : bkU B l (0) = [(a 0, dolO a im (nI X))] := bkU_at (by rw [hm]; exact (by simp <;> omega)) (by rw [← hl]; simp)
  have e1 : bkU B l (12) = [(a 50, raS E a)] := bkU_at (by rw [hm]; exact (by simp <;> omega)) (by rw [← hl]; simp)
  have e2 : bkU B l (21 + i) = wS := bkU_at (by rw [hm]; exact (by simp <;> omega)) (by rw [← hl]; simp)
  have eo : ∀ j, ¬ j ∈ [0, 12, 21 + i] → bkU B l j = B j := fun j hj => bkU_o (by rw [hm]; exact hj)
  exact ⟨hP, bkU B l, hB _ (by simp only [bkF, e0, e1, e2, List.append_assoc, List.cons_append, List.nil_append]) eo, (by rw [eo 25 (by simp <;> omega)]; exact hb), (by rw [e0]), (by rw [eo 1 (by simp <;> omega)]; exact c1), (by rw [eo 2 (by simp <;> omega)]; exact c2), (by rw [eo 3 (by simp <;> omega)]; exact c3), (by rw [eo 4 (by simp <;> omega)]; exact c4), (by rw [eo 5 (by simp <;> omega)]; exact c5), (by rw [eo 6 (by simp <;> omega)]; exact c6), (by rw [eo 7 (by simp <;> omega)]; exact c7), (by rw [eo 8 (by simp <;> omega)]; exact c8), (by rw [eo 9 (by simp <;> omega)]; exact c9), (by rw [eo 10 (by simp <;> omega)]; exact c10), (by rw [eo 11 (by simp <;> omega)]; exact c11), (by rw [e1]), (by rw [eo 13 (by simp <;> omega)]; exact c13), (by rw [eo 14 (by simp <;> omega)]; exact c14), (fun i hi => by rw [eo _ (by simp <;> omega)]; exact c15 i hi), (fun j hj => by by_cases q : j = i; (· subst q; rw [e2, updS_s]; exact nS); (· rw [eo _ (by simp <;> omega), updS_o q]; exact c16 j hj))⟩
set_option maxHeartbeats 1000000 in
theorem cl_Axs (h : CW E a b D r L D2 r2 L2 im X T tC tE sh v t f ws) {i : Nat} (hi : i < 4) {P : Int32 → Prop} {D' : Dg} {r' : Nat} {L' : List Cr} (hC : ∀ w, Axs E a D r L im (nI X) i (sh i) w → g_Ci E M d av w (fun z w' => P z ∧ Axs E a D' r' L' im (nI X) i (sh i) w')) : g_Ci E M d av ws (fun z w' => P z ∧ CW E a b D' r' L' D2 r2 L2 im X T tC tE sh v t f w') := by
  obtain ⟨B, hp, hb, c0, c1, c2, c3, c4, c5, c6, c7, c8, c9, c10, c11, c12, c13, c14, c15, c16⟩ := h
  have hin : Axs E a D r L im (nI X) i (sh i) (bkF B [0, 1, 2, 12, 21 + i]) := ⟨hi, _, B (21 + i), ⟨B 1, B 2, c1, c2, rfl⟩, c16 i hi, (by simp only [bkF, c0, c12, List.append_assoc, List.cons_append, List.nil_append])⟩
  refine (bk_liftI (is := [0, 1, 2, 12, 21 + i]) (by simp <;> omega) (by simp <;> omega) hp (hC _ hin)).post (fun z w' hq => ?_)
  obtain ⟨w1, ⟨hP, -, w2, wS, ⟨wp, wr, n1, n2, rfl⟩, nS, rfl⟩, hB⟩ := hq
  generalize hl : ([(0, [(a 0, dolO a im (nI X))]), (1, wp), (2, wr), (12, [(a 50, raS E a)]), (21 + i, wS)] : List (Nat × va_W)) = l
  have hm : l.map (fun q => q.1) = [0, 1, 2, 12, 21 + i] := by rw [← hl]; rfl
  have e0 : bkU B l (0) = [(a 0, dolO a im (nI X))] := bkU_at (by rw [hm]; exact (by simp <;> omega)) (by rw [← hl]; simp)
  have e1 : bkU B l (1) = wp := bkU_at (by rw [hm]; exact (by simp <;> omega)) (by rw [← hl]; simp)
  have e2 : bkU B l (2) = wr := bkU_at (by rw [hm]; exact (by simp <;> omega)) (by rw [← hl]; simp)
  have e3 : bkU B l (12) = [(a 50, raS E a)] := bkU_at (by rw [hm]; exact (by simp <;> omega)) (by rw [← hl]; simp)
  have e4 : bkU B l (21 + i) = wS := bkU_at (by rw [hm]; exact (by simp <;> omega)) (by rw [← hl]; simp)
  have eo : ∀ j, ¬ j ∈ [0, 1, 2, 12, 21 + i] → bkU B l j = B j := fun j hj => bkU_o (by rw [hm]; exact hj)
  exact ⟨hP, bkU B l, hB _ (by simp only [bkF, e0, e1, e2, e3, e4, List.append_assoc, List.cons_append, List.nil_append]) eo, (by rw [eo 25 (by simp <;> omega)]; exact hb), (by rw [e0]), (by rw [e1]; exact n1), (by rw [e2]; exact n2), (by rw [eo 3 (by simp <;> omega)]; exact c3), (by rw [eo 4 (by simp <;> omega)]; exact c4), (by rw [eo 5 (by simp <;> omega)]; exact c5), (by rw [eo 6 (by simp <;> omega)]; exact c6), (by rw [eo 7 (by simp <;> omega)]; exact c7), (by rw [eo 8 (by simp <;> omega)]; exact c8), (by rw [eo 9 (by simp <;> omega)]; exact c9), (by rw [eo 10 (by simp <;> omega)]; exact c10), (by rw [eo 11 (by simp <;> omega)]; exact c11), (by rw [e3]), (by rw [eo 13 (by simp <;> omega)]; exact c13), (by rw [eo 14 (by simp <;> omega)]; exact c14), (fun i hi => by rw [eo _ (by simp <;> omega)]; exact c15 i hi), (fun j hj => by by_cases q : j = i; (· subst q; rw [e4]; exact nS); (· rw [eo _ (by simp <;> omega)]; exact c16 j hj))⟩
set_option maxHeartbeats 1000000 in
theorem cl_Ase (h : CW E a b D r L D2 r2 L2 im X T tC tE sh v t f ws) {i : Nat} (hi : i < 4) {P : Int32 → Prop} (hC : ∀ w, Ase E a D r L im (nI X) i (sh i) w → g_Ci E M d av w (fun z w' => P z ∧ Ase E a D r L im (nI X) i (sh i) w')) : g_Ci E M d av ws (fun z w' => P z ∧ CW E a b D r L D2 r2 L2 im X T tC tE sh v t f w') := by
  obtain ⟨B, hp, hb, c0, c1, c2, c3, c4, c5, c6, c7, c8, c9, c10, c11, c12, c13, c14, c15, c16⟩ := h
  obtain ⟨to, tp, k13⟩ := c13
  have hin : Ase E a D r L im (nI X) i (sh i) (bkF B [0, 1, 2, 12, 21 + i, 13]) := ⟨_, to, tp, ⟨hi, _, B (21 + i), ⟨B 1, B 2, c1, c2, rfl⟩, c16 i hi, rfl⟩, (by simp only [bkF, c0, c12, k13, List.append_assoc, List.cons_append, List.nil_append])⟩
  refine (bk_liftI (is := [0, 1, 2, 12, 21 + i, 13]) (by simp <;> omega) (by simp <;> omega) hp (hC _ hin)).post (fun z w' hq => ?_)
  obtain ⟨w1, ⟨hP, w3, to2, tp2, ⟨-, w2, wS, ⟨wp, wr, n1, n2, rfl⟩, nS, rfl⟩, rfl⟩, hB⟩ := hq
  generalize hl : ([(0, [(a 0, dolO a im (nI X))]), (1, wp), (2, wr), (12, [(a 50, raS E a)]), (21 + i, wS), (13, [(a 51, ia E 6 to2), (a 52, ia E 4 tp2)])] : List (Nat × va_W)) = l
  have hm : l.map (fun q => q.1) = [0, 1, 2, 12, 21 + i, 13] := by rw [← hl]; rfl
  have e0 : bkU B l (0) = [(a 0, dolO a im (nI X))] := bkU_at (by rw [hm]; exact (by simp <;> omega)) (by rw [← hl]; simp)
  have e1 : bkU B l (1) = wp := bkU_at (by rw [hm]; exact (by simp <;> omega)) (by rw [← hl]; simp)
  have e2 : bkU B l (2) = wr := bkU_at (by rw [hm]; exact (by simp <;> omega)) (by rw [← hl]; simp)
  have e3 : bkU B l (12) = [(a 50, raS E a)] := bkU_at (by rw [hm]; exact (by simp <;> omega)) (by rw [← hl]; simp)
  have e4 : bkU B l (21 + i) = wS := bkU_at (by rw [hm]; exact (by simp <;> omega)) (by rw [← hl]; simp)
  have e5 : bkU B l (13) = [(a 51, ia E 6 to2), (a 52, ia E 4 tp2)] := bkU_at (by rw [hm]; exact (by simp <;> omega)) (by rw [← hl]; simp)
  have eo : ∀ j, ¬ j ∈ [0, 1, 2, 12, 21 + i, 13] → bkU B l j = B j := fun j hj => bkU_o (by rw [hm]; exact hj)
  exact ⟨hP, bkU B l, hB _ (by simp only [bkF, e0, e1, e2, e3, e4, e5, List.append_assoc, List.cons_append, List.nil_append]) eo, (by rw [eo 25 (by simp <;> omega)]; exact hb), (by rw [e0]), (by rw [e1]; exact n1), (by rw [e2]; exact n2), (by rw [eo 3 (by simp <;> omega)]; exact c3), (by rw [eo 4 (by simp <;> omega)]; exact c4), (by rw [eo 5 (by simp <;> omega)]; exact c5), (by rw [eo 6 (by simp <;> omega)]; exact c6), (by rw [eo 7 (by simp <;> omega)]; exact c7), (by rw [eo 8 (by simp <;> omega)]; exact c8), (by rw [eo 9 (by simp <;> omega)]; exact c9), (by rw [eo 10 (by simp <;> omega)]; exact c10), (by rw [eo 11 (by simp <;> omega)]; exact c11), (by rw [e3]), ⟨_, _, e5⟩, (by rw [eo 14 (by simp <;> omega)]; exact c14), (fun i hi => by rw [eo _ (by simp <;> omega)]; exact c15 i hi), (fun j hj => by by_cases q : j = i; (· subst q; rw [e4]; exact nS); (· rw [eo _ (by simp <;> omega)]; exact c16 j hj))⟩
set_option maxHeartbeats 1000000 in
theorem cl_Acp (h : CW E a b D r L D2 r2 L2 im X T tC tE sh v t f ws) {i1 i2 : Nat} (hi1 : i1 < 4) (hi2 : i2 < 4) (hne : i1 ≠ i2) {P : Int32 → Prop} {s' : Int32 × List Int32} (hC : ∀ w, Acp E a im (nI X) i1 i2 (sh i1) (sh i2) w → g_Ci E M d av w (fun z w' => P z ∧ Acp E a im (nI X) i1 i2 (sh i1) s' w')) : g_Ci E M d av ws (fun z w' => P z ∧ CW E a b D r L D2 r2 L2 im X T tC tE (updS sh i2 s') v t f w') := by
  obtain ⟨B, hp, hb, c0, c1, c2, c3, c4, c5, c6, c7, c8, c9, c10, c11, c12, c13, c14, c15, c16⟩ := h
  have hin : Acp E a im (nI X) i1 i2 (sh i1) (sh i2) (bkF B [0, 12, 21 + i1, 21 + i2]) := ⟨hi1, hi2, B (21 + i1), B (21 + i2), c16 i1 hi1, c16 i2 hi2, (by simp only [bkF, c0, c12, List.append_assoc, List.cons_append, List.nil_append])⟩
  refine (bk_liftI (is := [0, 12, 21 + i1, 21 + i2]) (by simp <;> omega) (by simp <;> omega) hp (hC _ hin)).post (fun z w' hq => ?_)
  obtain ⟨w1, ⟨hP, -, -, wS, wT, nS, nT, rfl⟩, hB⟩ := hq
  generalize hl : ([(0, [(a 0, dolO a im (nI X))]), (12, [(a 50, raS E a)]), (21 + i1, wS), (21 + i2, wT)] : List (Nat × va_W)) = l
  have hm : l.map (fun q => q.1) = [0, 12, 21 + i1, 21 + i2] := by rw [← hl]; rfl
  have e0 : bkU B l (0) = [(a 0, dolO a im (nI X))] := bkU_at (by rw [hm]; exact (by simp <;> omega)) (by rw [← hl]; simp)
  have e1 : bkU B l (12) = [(a 50, raS E a)] := bkU_at (by rw [hm]; exact (by simp <;> omega)) (by rw [← hl]; simp)
  have e2 : bkU B l (21 + i1) = wS := bkU_at (by rw [hm]; exact (by simp <;> omega)) (by rw [← hl]; simp)
  have e3 : bkU B l (21 + i2) = wT := bkU_at (by rw [hm]; exact (by simp <;> omega)) (by rw [← hl]; simp)
  have eo : ∀ j, ¬ j ∈ [0, 12, 21 + i1, 21 + i2] → bkU B l j = B j := fun j hj => bkU_o (by rw [hm]; exact hj)
  exact ⟨hP, bkU B l, hB _ (by simp only [bkF, e0, e1, e2, e3, List.append_assoc, List.cons_append, List.nil_append]) eo, (by rw [eo 25 (by simp <;> omega)]; exact hb), (by rw [e0]), (by rw [eo 1 (by simp <;> omega)]; exact c1), (by rw [eo 2 (by simp <;> omega)]; exact c2), (by rw [eo 3 (by simp <;> omega)]; exact c3), (by rw [eo 4 (by simp <;> omega)]; exact c4), (by rw [eo 5 (by simp <;> omega)]; exact c5), (by rw [eo 6 (by simp <;> omega)]; exact c6), (by rw [eo 7 (by simp <;> omega)]; exact c7), (by rw [eo 8 (by simp <;> omega)]; exact c8), (by rw [eo 9 (by simp <;> omega)]; exact c9), (by rw [eo 10 (by simp <;> omega)]; exact c10), (by rw [eo 11 (by simp <;> omega)]; exact c11), (by rw [e1]), (by rw [eo 13 (by simp <;> omega)]; exact c13), (by rw [eo 14 (by simp <;> omega)]; exact c14), (fun i hi => by rw [eo _ (by simp <;> omega)]; exact c15 i hi), (fun j hj => by by_cases q : j = i2; (· subst q; rw [e3, updS_s]; exact nT); (by_cases q1 : j = i1; (· subst q1; rw [e2, updS_o q]; exact nS); (· rw [eo _ (by simp <;> omega), updS_o q]; exact c16 j hj)))⟩
set_option maxHeartbeats 1000000 in
theorem cl_fed (h : CW E a b D r L D2 r2 L2 im X T tC tE sh v t f ws) {P : Int32 → Prop} {T' : List Nat} (hC : ∀ w, (fun w => ∃ w1, RdrI E a 42 T w1 ∧ w = (a 0, dolO a im (nI X)) :: w1) w → g_Ci E M d av w (fun z w' => P z ∧ (fun w => ∃ w1, RdrI E a 42 T' w1 ∧ w = (a 0, dolO a im (nI X)) :: w1) w')) : g_Ci E M d av ws (fun z w' => P z ∧ CW E a b D r L D2 r2 L2 im X T' tC tE sh v t f w') := by
  obtain ⟨B, hp, hb, c0, c1, c2, c3, c4, c5, c6, c7, c8, c9, c10, c11, c12, c13, c14, c15, c16⟩ := h
  have hin : (fun w => ∃ w1, RdrI E a 42 T w1 ∧ w = (a 0, dolO a im (nI X)) :: w1) (bkF B [0, 8]) := ⟨B 8, c8, (by simp only [bkF, c0, List.append_assoc, List.cons_append, List.nil_append])⟩
  refine (bk_liftI (is := [0, 8]) (by decide) (by decide) hp (hC _ hin)).post (fun z w' hq => ?_)
  obtain ⟨w1, ⟨hP, w2, n8, rfl⟩, hB⟩ := hq
  generalize hl : ([(0, [(a 0, dolO a im (nI X))]), (8, w2)] : List (Nat × va_W)) = l
  have hm : l.map (fun q => q.1) = [0, 8] := by rw [← hl]; rfl
  have e0 : bkU B l (0) = [(a 0, dolO a im (nI X))] := bkU_at (by rw [hm]; decide) (by rw [← hl]; simp)
  have e1 : bkU B l (8) = w2 := bkU_at (by rw [hm]; decide) (by rw [← hl]; simp)
  have eo : ∀ j, ¬ j ∈ [0, 8] → bkU B l j = B j := fun j hj => bkU_o (by rw [hm]; exact hj)
  exact ⟨hP, bkU B l, hB _ (by simp only [bkF, e0, e1, List.append_assoc, List.cons_append, List.nil_append]) eo, (by rw [eo 25 (by decide)]; exact hb), (by rw [e0]), (by rw [eo 1 (by decide)]; exact c1), (by rw [eo 2 (by decide)]; exact c2), (by rw [eo 3 (by decide)]; exact c3), (by rw [eo 4 (by decide)]; exact c4), (by rw [eo 5 (by decide)]; exact c5), (by rw [eo 6 (by decide)]; exact c6), (by rw [eo 7 (by decide)]; exact c7), (by rw [e1]; exact n8), (by rw [eo 9 (by decide)]; exact c9), (by rw [eo 10 (by decide)]; exact c10), (by rw [eo 11 (by decide)]; exact c11), (by rw [eo 12 (by decide)]; exact c12), (by rw [eo 13 (by decide)]; exact c13), (by rw [eo 14 (by decide)]; exact c14), (fun i hi => by rw [eo _ (by simp <;> omega)]; exact c15 i hi), (fun i hi => by rw [eo _ (by simp <;> omega)]; exact c16 i hi)⟩
set_option maxHeartbeats 1000000 in
theorem cl_cnt (h : CW E a b D r L D2 r2 L2 im X T tC tE sh v t f ws) {P : Int32 → Prop} (hC : ∀ Lt w, (fun w => ∃ w1 w2, Atg E a D r L Lt im (nI X) w1 ∧ RdrI E a 42 T w2 ∧ w = w1 ++ w2) w → g_Ci E M d av w (fun z w' => P z ∧ ∃ Lt2, (fun w => ∃ w1 w2, Atg E a D r L Lt2 im (nI X) w1 ∧ RdrI E a 42 T w2 ∧ w = w1 ++ w2) w')) : g_Ci E M d av ws (fun z w' => P z ∧ CW E a b D r L D2 r2 L2 im X T tC tE sh v t f w') := by
  obtain ⟨B, hp, hb, c0, c1, c2, c3, c4, c5, c6, c7, c8, c9, c10, c11, c12, c13, c14, c15, c16⟩ := h
  obtain ⟨Lt, k5⟩ := c5
  have hin : (fun w => ∃ w1 w2, Atg E a D r L Lt im (nI X) w1 ∧ RdrI E a 42 T w2 ∧ w = w1 ++ w2) (bkF B [0, 1, 2, 5, 8]) := ⟨_, B 8, ⟨B 1, B 2, B 5, c1, c2, k5, rfl⟩, c8, (by simp only [bkF, c0, List.append_assoc, List.cons_append, List.nil_append])⟩
  refine (bk_liftI (is := [0, 1, 2, 5, 8]) (by decide) (by decide) hp (hC _ _ hin)).post (fun z w' hq => ?_)
  obtain ⟨w1, ⟨hP, Lt2, w2, w3, ⟨wp, wr, wt, n1, n2, n5, rfl⟩, n8, rfl⟩, hB⟩ := hq
  generalize hl : ([(0, [(a 0, dolO a im (nI X))]), (1, wp), (2, wr), (5, wt), (8, w3)] : List (Nat × va_W)) = l
  have hm : l.map (fun q => q.1) = [0, 1, 2, 5, 8] := by rw [← hl]; rfl
  have e0 : bkU B l (0) = [(a 0, dolO a im (nI X))] := bkU_at (by rw [hm]; decide) (by rw [← hl]; simp)
  have e1 : bkU B l (1) = wp := bkU_at (by rw [hm]; decide) (by rw [← hl]; simp)
  have e2 : bkU B l (2) = wr := bkU_at (by rw [hm]; decide) (by rw [← hl]; simp)
  have e3 : bkU B l (5) = wt := bkU_at (by rw [hm]; decide) (by rw [← hl]; simp)
  have e4 : bkU B l (8) = w3 := bkU_at (by rw [hm]; decide) (by rw [← hl]; simp)
  have eo : ∀ j, ¬ j ∈ [0, 1, 2, 5, 8] → bkU B l j = B j := fun j hj => bkU_o (by rw [hm]; exact hj)
  exact ⟨hP, bkU B l, hB _ (by simp only [bkF, e0, e1, e2, e3, e4, List.append_assoc, List.cons_append, List.nil_append]) eo, (by rw [eo 25 (by decide)]; exact hb), (by rw [e0]), (by rw [e1]; exact n1), (by rw [e2]; exact n2), (by rw [eo 3 (by decide)]; exact c3), (by rw [eo 4 (by decide)]; exact c4), ⟨Lt2, (by rw [e3]; exact n5)⟩, (by rw [eo 6 (by decide)]; exact c6), (by rw [eo 7 (by decide)]; exact c7), (by rw [e4]; exact n8), (by rw [eo 9 (by decide)]; exact c9), (by rw [eo 10 (by decide)]; exact c10), (by rw [eo 11 (by decide)]; exact c11), (by rw [eo 12 (by decide)]; exact c12), (by rw [eo 13 (by decide)]; exact c13), (by rw [eo 14 (by decide)]; exact c14), (fun i hi => by rw [eo _ (by simp <;> omega)]; exact c15 i hi), (fun i hi => by rw [eo _ (by simp <;> omega)]; exact c16 i hi)⟩
set_option maxHeartbeats 1000000 in
theorem cl_one (h : CW E a b D r L D2 r2 L2 im X T tC tE sh v t f ws) {P : Int32 → Prop} (hC : ∀ w, (fun w => w = [(a 0, dolO a im (nI X))]) w → g_Ci E M d av w (fun z w' => P z ∧ (fun w => w = [(a 0, dolO a im (nI X))]) w')) : g_Ci E M d av ws (fun z w' => P z ∧ CW E a b D r L D2 r2 L2 im X T tC tE sh v t f w') := by
  obtain ⟨B, hp, hb, c0, c1, c2, c3, c4, c5, c6, c7, c8, c9, c10, c11, c12, c13, c14, c15, c16⟩ := h
  have hin : (fun w => w = [(a 0, dolO a im (nI X))]) (bkF B [0]) := (by simp only [bkF, c0, List.append_assoc, List.cons_append, List.nil_append])
  refine (bk_liftI (is := [0]) (by decide) (by decide) hp (hC _ hin)).post (fun z w' hq => ?_)
  obtain ⟨w1, ⟨hP, rfl⟩, hB⟩ := hq
  generalize hl : ([(0, [(a 0, dolO a im (nI X))])] : List (Nat × va_W)) = l
  have hm : l.map (fun q => q.1) = [0] := by rw [← hl]; rfl
  have e0 : bkU B l (0) = [(a 0, dolO a im (nI X))] := bkU_at (by rw [hm]; decide) (by rw [← hl]; simp)
  have eo : ∀ j, ¬ j ∈ [0] → bkU B l j = B j := fun j hj => bkU_o (by rw [hm]; exact hj)
  exact ⟨hP, bkU B l, hB _ (by simp only [bkF, e0, List.append_assoc, List.cons_append, List.nil_append]) eo, (by rw [eo 25 (by decide)]; exact hb), (by rw [e0]), (by rw [eo 1 (by decide)]; exact c1), (by rw [eo 2 (by decide)]; exact c2), (by rw [eo 3 (by decide)]; exact c3), (by rw [eo 4 (by decide)]; exact c4), (by rw [eo 5 (by decide)]; exact c5), (by rw [eo 6 (by decide)]; exact c6), (by rw [eo 7 (by decide)]; exact c7), (by rw [eo 8 (by decide)]; exact c8), (by rw [eo 9 (by decide)]; exact c9), (by rw [eo 10 (by decide)]; exact c10), (by rw [eo 11 (by decide)]; exact c11), (by rw [eo 12 (by decide)]; exact c12), (by rw [eo 13 (by decide)]; exact c13), (by rw [eo 14 (by decide)]; exact c14), (fun i hi => by rw [eo _ (by simp <;> omega)]; exact c15 i hi), (fun i hi => by rw [eo _ (by simp <;> omega)]; exact c16 i hi)⟩
set_option maxHeartbeats 1000000 in
theorem cl_txt {n X' : Nat} {T' : List Nat} (h : CW E a b D r L D2 r2 L2 im X T tC tE sh v t f ws) (hn : n < 6) {P : Int32 → Prop} {R : List Int32 → (Nat → Nat) → Prop} (hC : ∀ C e w1 w2 w3, RdrI E a 42 T w1 → Txt E a 44 C e w2 → Txt E a (54 + 4 * n) (tC n) (tE n) w3 → g_Ci E M d av ((a 0, dolO a im (nI X)) :: (a 48, raT E a) :: ((w1 ++ w2) ++ w3)) (fun z w' => P z ∧ ∃ C' e', R C' e' ∧ ∃ (Ce : List Int32 × (Nat → Nat)) (w1' w2' w3' : va_W), RdrI E a 42 T' w1' ∧ Txt E a 44 Ce.1 Ce.2 w2' ∧ Txt E a (54 + 4 * n) C' e' w3' ∧ w' = (a 0, dolO a im (nI X')) :: (a 48, raT E a) :: ((w1' ++ w2') ++ w3'))) : g_Ci E M d av ws (fun z w' => P z ∧ ∃ C' e', R C' e' ∧ CW E a b D r L D2 r2 L2 im X' T' (updC tC n C') (updE tE n e') sh v t f w') := by
  obtain ⟨B, hp, hb, c0, c1, c2, c3, c4, c5, c6, c7, c8, ⟨C, e, c9⟩, c10, c11, c12, c13, c14, c15, c16⟩ := h
  have hin : bkF B [0, 10, 8, 9, 15 + n] = (a 0, dolO a im (nI X)) :: (a 48, raT E a) :: ((B 8 ++ B 9) ++ B (15 + n)) := by simp only [bkF, c0, c10, List.append_assoc, List.cons_append, List.nil_append]
  have hC' := hC C e (B 8) (B 9) (B (15 + n)) c8 c9 (c15 n hn)
  rw [← hin] at hC'
  refine (bk_liftI (is := [0, 10, 8, 9, 15 + n]) (by simp <;> omega) (by simp <;> omega) hp hC').post (fun z w' hq => ?_)
  obtain ⟨w0, ⟨hP, C', e', hR, Ce, w1, w2, w3, n8, n9, n15, rfl⟩, hB⟩ := hq
  generalize hl : ([(0, [(a 0, dolO a im (nI X'))]), (10, [(a 48, raT E a)]), (8, w1), (9, w2), (15 + n, w3)] : List (Nat × va_W)) = l
  have hm : l.map (fun q => q.1) = [0, 10, 8, 9, 15 + n] := by rw [← hl]; rfl
  have hnd : (l.map (fun q => q.1)).Nodup := by rw [hm]; simp <;> omega
  have e0 : bkU B l 0 = [(a 0, dolO a im (nI X'))] := bkU_at hnd (by rw [← hl]; simp)
  have e1 : bkU B l 10 = [(a 48, raT E a)] := bkU_at hnd (by rw [← hl]; simp)
  have e2 : bkU B l 8 = w1 := bkU_at hnd (by rw [← hl]; simp)
  have e3 : bkU B l 9 = w2 := bkU_at hnd (by rw [← hl]; simp)
  have e4 : bkU B l (15 + n) = w3 := bkU_at hnd (by rw [← hl]; simp)
  have eo : ∀ j, ¬ j ∈ [0, 10, 8, 9, 15 + n] → bkU B l j = B j := fun j hj => bkU_o (by rw [hm]; exact hj)
  refine ⟨hP, C', e', hR, bkU B l, hB _ (by simp only [bkF, e0, e1, e2, e3, e4, List.append_assoc, List.cons_append, List.nil_append]) eo, (by rw [eo 25 (by simp <;> omega)]; exact hb), (by rw [e0]), (by rw [eo 1 (by simp <;> omega)]; exact c1), (by rw [eo 2 (by simp <;> omega)]; exact c2), (by rw [eo 3 (by simp <;> omega)]; exact c3), (by rw [eo 4 (by simp <;> omega)]; exact c4), (by rw [eo 5 (by simp <;> omega)]; exact c5), (by rw [eo 6 (by simp <;> omega)]; exact c6), (by rw [eo 7 (by simp <;> omega)]; exact c7), (by rw [e2]; exact n8), ⟨_, _, (by rw [e3]; exact n9)⟩, (by rw [e1]), (by rw [eo 11 (by simp <;> omega)]; exact c11), (by rw [eo 12 (by simp <;> omega)]; exact c12), (by rw [eo 13 (by simp <;> omega)]; exact c13), (by rw [eo 14 (by simp <;> omega)]; exact c14), fun i hi => ?_, (fun i hi => by rw [eo _ (by simp <;> omega)]; exact c16 i hi)⟩
  unfold updC updE
  by_cases q : i = n
  · subst q
    rw [if_pos rfl, if_pos rfl, e4]; exact n15
  · rw [if_neg q, if_neg q, eo _ (by simp <;> omega)]; exact c15 i hi
end S9k
