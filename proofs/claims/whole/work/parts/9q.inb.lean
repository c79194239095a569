/-! the class's constructor: its loops -/
section S9r0
variable {E : GE} {M : GM} {d mc ms : Nat} {A : Nat → Prop} {Q : Option Value → va_W → Prop} {k n pc q : Nat} {ls : List (Option Value)} {st : List Value} {ws : va_W}
theorem set_at {α : Type} {l : List α} {j i : Nat} {x p : α} (h : (l.set j x)[i]? = some p) : (i = j ∧ p = x ∧ i < l.length) ∨ (i ≠ j ∧ l[i]? = some p) := by
  rw [List.getElem?_set] at h
  by_cases q : j = i
  · rw [if_pos q] at h
    by_cases q2 : j < l.length
    · rw [if_pos q2] at h
      exact Or.inl ⟨q.symm, (Option.some.inj h).symm, by omega⟩
    · rw [if_neg q2] at h; cases h
  · rw [if_neg q] at h
    exact Or.inr ⟨fun e => q e.symm, h⟩
/-- another telling of the same references -/
theorem g_aeq {a m : Nat} {c : ClassId} {f g : Nat → Option Nat} (j : Nat) (he : ws[j]? = some (a, .inl (c, m, .inr (.inr (.inr (.inr f)))))) (hfg : ∀ i, i < m → f i = g i) (kk : G E M d mc ms A Q k n pc ls st (ws.set j (a, .inl (c, m, .inr (.inr (.inr (.inr g))))))) : G E M d mc ms A Q k n pc ls st ws := by
  intro p e s m2 args below meth c2 H locs ls0 hc hP hD hS hl
  have hcell : vp_cell c (m, .inr (.inr (.inr (.inr f)))) = vp_cell c (m, .inr (.inr (.inr (.inr g)))) := by
    rw [vp_cell_q, vp_cell_q]
    unfold arrV
    have : (fun j : Fin m => va_rf (f j.val)) = (fun j : Fin m => va_rf (g j.val)) := by
      funext j
      rw [hfg j.val j.isLt]
    rw [this]
  have key : ∀ (i : Nat) (p : Nat × va_E), (ws.set j (a, .inl (c, m, .inr (.inr (.inr (.inr g))))))[i]? = some p → ∃ p0, ws[i]? = some p0 ∧ p0.1 = p.1 := by
    intro i p hp
    rcases set_at hp with ⟨q1, q2, -⟩ | ⟨-, q2⟩
    · exact ⟨_, by rw [q1]; exact he, by rw [q2]⟩
    · exact ⟨p, q2, rfl⟩
  refine kk p e s m2 args below meth c2 H locs ls0 hc ?_ ?_ hS hl
  · intro i p hp
    rcases set_at hp with ⟨q1, q2, -⟩ | ⟨-, q2⟩
    · rw [q2]
      have h1 := hP j _ he
      show H[a]? = some (vp_cell c (m, .inr (.inr (.inr (.inr g)))))
      rw [← hcell]
      exact h1
    · exact hP i p q2
  · refine ⟨fun i i2 p p2 hp hp2 e => ?_, fun i p hp => ?_⟩
    · obtain ⟨p0, k1, k2⟩ := key i p hp
      obtain ⟨p1, k3, k4⟩ := key i2 p2 hp2
      exact hD.1 i i2 p0 p1 k1 k3 (by rw [k2, k4]; exact e)
    · obtain ⟨p0, k1, k2⟩ := key i p hp
      rw [← k2]
      exact hD.2 i p0 k1
end S9r0
section S9r
variable {E : GE} {d q : Nat} {A : Nat → Prop} {Q : Option Value → va_W → Prop} {k n : Nat} {fs : List Value} {qT qS : Nat} {Y : va_W}
set_option maxRecDepth 20000 in
set_option maxHeartbeats 2000000 in
theorem di_t (hN : g_N E) {i : Nat} (hi : i < 6) {g : Nat → Option Nat} (h7 : fs[7]? = some (.ref qT)) (hk : Nat.ble (k + 4) 85 = true) (hk2 : Nat.ble (n + 328) 3837 = true) (kk : ∀ a' : Nat → Nat, G E mX7_init (d + 61) 85 3837 A Q (k + 4) (n + 328) 130 [some (.ref q), some (.int (nI (i + 1)))] [] ((q, .inr (6, fs)) :: (qT, .inl (E.2.2.1 3, 6, .inr (.inr (.inr (.inr (va_up g i (some (a' 0)))))))) :: (Y ++ txtW E a' 0 z0f z0f z0f 0 0))) : G E mX7_init (d + 61) 85 3837 A Q k n 130 [some (.ref q), some (.int (nI i))] [] ((q, .inr (6, fs)) :: (qT, .inl (E.2.2.1 3, 6, .inr (.inr (.inr (.inr g))))) :: Y) := by
  have tc6 := tc_6
  have ei := t_nI (n := i) (by omega)
  have hk' := Nat.le_of_ble_eq_true hk
  have hk2' := Nat.le_of_ble_eq_true hk2
  refine g_iload1 dX7_init_130 (g_bipush kb_6 dX7_init_131 (g_icmp_ge (tgt := 155) dX7_init_133 (by decide) (fun h => absurd h (by omega)) (fun h => g_aload0 dX7_init_136 (g_get fl_X7_49 0 rfl h7 dX7_init_137 (g_iload1 dX7_init_140 ?_)))))
  refine g_new (ci := 5) (r := (RX5, TX5, 5)) (fs := nwX5) rfl tyX5 tyX5_ok gu_5 (gw_at (i := 253) (by decide +kernel) rfl) (gw_at (i := 209) (by decide +kernel) rfl) (gw_at (i := 82) (by decide +kernel) rfl) nwX5_ok dX7_init_141 (by omega) (by show n + 5 ≤ 3837; omega) (fun q' => g_dup dX7_init_144 rfl ?_)
  refine g_callIN dX7_init_145 (mn_X7_78 hN) (Nat.le_of_ble_eq_true rfl) (g_frame (X := (q, .inr (6, fs)) :: (qT, .inl (E.2.2.1 3, 6, .inr (.inr (.inr (.inr g))))) :: Y) (Y := []) (i_text (d := d + 59) hN)) (by omega) (by show n + 5 + 323 ≤ 3837; omega) (fun v w hq => ?_)
  obtain ⟨w1, ⟨rfl, a', rfl, rfl⟩, rfl⟩ := hq
  rw [List.append_nil]
  refine g_aastq (ci := 5) (r := (RX5, TX5, 5)) 3 1 (2 + Y.length) rfl rfl rfl (vs := [.ref (a' (0 + 1)), .ref (a' (0 + 2)), .int 0, .ref (a' (0 + 3)), .int 0]) ?_ dX7_init_148 ⟨by omega, by rw [ei]; show (i : Int) < (6 : Nat); omega⟩ (g_iinc1 ki_1 dX7_init_149 rfl rfl (g_goto (tgt := 130) dX7_init_152 (by decide) ?_))
  · show ((_ :: _ :: Y) ++ _)[2 + Y.length]? = _
    rw [List.getElem?_append_right (by show Y.length + 2 ≤ 2 + Y.length; omega)]
    rw [List.length_cons, List.length_cons, show 2 + Y.length - (Y.length + 1 + 1) = 0 by omega]
    rfl
  · rw [nI_1, ei, Int.toNat_natCast]
    exact kk a'
set_option maxRecDepth 20000 in
set_option maxHeartbeats 2000000 in
theorem di_s (hN : g_N E) {i : Nat} (hi : i < 4) {cT : Nat × va_E} {g : Nat → Option Nat} (h10 : fs[10]? = some (.ref qS)) (hk : Nat.ble (k + 2) 85 = true) (hk2 : Nat.ble (n + 43) 3837 = true) (kk : ∀ a' : Nat → Nat, G E mX7_init (d + 61) 85 3837 A Q (k + 2) (n + 43) 157 [some (.ref q), some (.int (nI (i + 1)))] [] ((q, .inr (6, fs)) :: cT :: (qS, .inl (E.2.2.1 2, 4, .inr (.inr (.inr (.inr (va_up g i (some (a' 0)))))))) :: (Y ++ shtW E a' 0 z0f (-1) 0))) : G E mX7_init (d + 61) 85 3837 A Q k n 157 [some (.ref q), some (.int (nI i))] [] ((q, .inr (6, fs)) :: cT :: (qS, .inl (E.2.2.1 2, 4, .inr (.inr (.inr (.inr g))))) :: Y) := by
  have tc4 := tc_4
  have ei := t_nI (n := i) (by omega)
  have hk' := Nat.le_of_ble_eq_true hk
  have hk2' := Nat.le_of_ble_eq_true hk2
  refine g_iload1 dX7_init_157 (g_iconst ki_4 dX7_init_158 (g_icmp_ge (tgt := 181) dX7_init_159 (by decide) (fun h => absurd h (by omega)) (fun h => g_aload0 dX7_init_162 (g_get fl_X7_65 0 rfl h10 dX7_init_163 (g_iload1 dX7_init_166 ?_)))))
  refine g_new (ci := 4) (r := (RX4, TX4, 3)) (fs := nwX4) rfl tyX4 tyX4_ok gu_4 (gw_at (i := 255) (by decide +kernel) rfl) (gw_at (i := 258) (by decide +kernel) rfl) (gw_at (i := 83) (by decide +kernel) rfl) nwX4_ok dX7_init_167 (by omega) (by show n + 3 ≤ 3837; omega) (fun q' => g_dup dX7_init_170 rfl ?_)
  refine g_callIN dX7_init_171 (mn_X7_79 hN) (Nat.le_of_ble_eq_true rfl) (g_frame (X := (q, .inr (6, fs)) :: cT :: (qS, .inl (E.2.2.1 2, 4, .inr (.inr (.inr (.inr g))))) :: Y) (Y := []) (i_sheet (d := d + 59) hN)) (by omega) (by show n + 3 + 40 ≤ 3837; omega) (fun v w hq => ?_)
  obtain ⟨w1, ⟨rfl, a', rfl, rfl⟩, rfl⟩ := hq
  rw [List.append_nil]
  refine g_aastq (ci := 4) (r := (RX4, TX4, 3)) 2 2 (3 + Y.length) rfl rfl rfl (vs := [.ref (a' (0 + 1)), .int (-1), .int 0]) ?_ dX7_init_174 ⟨by omega, by rw [ei]; show (i : Int) < (4 : Nat); omega⟩ (g_iinc1 ki_1 dX7_init_175 rfl rfl (g_goto (tgt := 157) dX7_init_178 (by decide) ?_))
  · show ((_ :: _ :: _ :: Y) ++ _)[3 + Y.length]? = _
    rw [List.getElem?_append_right (by show Y.length + 3 ≤ 3 + Y.length; omega)]
    rw [List.length_cons, List.length_cons, List.length_cons, show 3 + Y.length - (Y.length + 1 + 1 + 1) = 0 by omega]
    rfl
  · rw [nI_1, ei, Int.toNat_natCast]
    exact kk a'
set_option maxRecDepth 20000 in
set_option maxHeartbeats 2000000 in
theorem i_dol1 (hN : g_N E) (h7 : fs[7]? = some (.ref qT)) (h10 : fs[10]? = some (.ref qS)) (kk : ∀ t0 t1 t2 t3 t4 t5 s0 s1 s2 s3 : Nat → Nat, G E mX7_init (d + 61) 85 3837 A Q 85 3837 183 [some (.ref q), some (.int 0)] [] ((q, .inr (6, fs)) :: (qT, .inl (E.2.2.1 3, 6, .inr (.inr (.inr (.inr (va_up (va_up (va_up (va_up (va_up (va_up (fun _ => none) 0 (some (t0 0))) 1 (some (t1 0))) 2 (some (t2 0))) 3 (some (t3 0))) 4 (some (t4 0))) 5 (some (t5 0)))))))) :: (qS, .inl (E.2.2.1 2, 4, .inr (.inr (.inr (.inr (va_up (va_up (va_up (va_up (fun _ => none) 0 (some (s0 0))) 1 (some (s1 0))) 2 (some (s2 0))) 3 (some (s3 0)))))))) :: ((((((((((Y ++ txtW E t0 0 z0f z0f z0f 0 0) ++ txtW E t1 0 z0f z0f z0f 0 0) ++ txtW E t2 0 z0f z0f z0f 0 0) ++ txtW E t3 0 z0f z0f z0f 0 0) ++ txtW E t4 0 z0f z0f z0f 0 0) ++ txtW E t5 0 z0f z0f z0f 0 0) ++ shtW E s0 0 z0f (-1) 0) ++ shtW E s1 0 z0f (-1) 0) ++ shtW E s2 0 z0f (-1) 0) ++ shtW E s3 0 z0f (-1) 0))) : G E mX7_init (d + 61) 85 3837 A Q 53 1697 130 [some (.ref q), some (.int 0)] [] ((q, .inr (6, fs)) :: (qT, .inl (E.2.2.1 3, 6, .inr (.inr (.inr (.inr (fun _ => none)))))) :: (qS, .inl (E.2.2.1 2, 4, .inr (.inr (.inr (.inr (fun _ => none)))))) :: Y) := by
  refine di_t hN (i := 0) (by omega) h7 rfl rfl (fun t0 => ?_)
  refine di_t hN (i := 1) (by omega) h7 rfl rfl (fun t1 => ?_)
  refine di_t hN (i := 2) (by omega) h7 rfl rfl (fun t2 => ?_)
  refine di_t hN (i := 3) (by omega) h7 rfl rfl (fun t3 => ?_)
  refine di_t hN (i := 4) (by omega) h7 rfl rfl (fun t4 => ?_)
  refine di_t hN (i := 5) (by omega) h7 rfl rfl (fun t5 => ?_)
  refine g_iload1 dX7_init_130 (g_bipush kb_6 dX7_init_131 (g_icmp_ge (tgt := 155) dX7_init_133 (by decide) (fun h => ?_) (fun h => absurd h (by decide))))
  refine g_iconst ki_0 dX7_init_155 (g_istore1 dX7_init_156 rfl rfl ?_)
  refine di_s hN (i := 0) (by omega) h10 rfl rfl (fun s0 => ?_)
  refine di_s hN (i := 1) (by omega) h10 rfl rfl (fun s1 => ?_)
  refine di_s hN (i := 2) (by omega) h10 rfl rfl (fun s2 => ?_)
  refine di_s hN (i := 3) (by omega) h10 rfl rfl (fun s3 => ?_)
  refine g_iload1 dX7_init_157 (g_iconst ki_4 dX7_init_158 (g_icmp_ge (tgt := 181) dX7_init_159 (by decide) (fun h => ?_) (fun h => absurd h (by decide))))
  refine g_iconst ki_0 dX7_init_181 (g_istore1 dX7_init_182 rfl rfl ?_)
  exact kk t0 t1 t2 t3 t4 t5 s0 s1 s2 s3
end S9r
