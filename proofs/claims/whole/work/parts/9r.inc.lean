/-! the class's constructor: the first text; all in blocks -/
def T39 : List Nat := [111, 100, 100, 115, 32, 112, 97, 99, 101, 32, 59, 32, 119, 111, 114, 116, 104, 32, 49, 48, 32, 45, 32, 112, 97, 99, 101, 32, 59, 32, 109, 105, 110, 100, 115, 32, 49, 32, 59]
theorem T39_by : ∀ j, j < 39 → byS 0 j = nI (T39.getD j 0) ∧ T39.getD j 0 < 256 := by decide +kernel
theorem T39_ok : reOK T39 := ⟨by decide +kernel, by decide +kernel, by decide +kernel, by decide +kernel⟩
theorem B40_ok : reOK B40 := ⟨by decide +kernel, by decide +kernel, by decide +kernel, by decide +kernel⟩
theorem T39_sg : sg1 T39 = sg1 B40 ∧ sg2 T39 = sg2 B40 ∧ sg3 T39 = sg3 B40 := ⟨by decide +kernel, by decide +kernel, by decide +kernel⟩
theorem T39_TX (e0 : Nat → Nat) : TX B40 (rdAll T39 e0).2.2.1 (rdAll T39 e0).2.2.2 := by
  obtain ⟨-, -, g1⟩ := rdAll_3 (B := T39) (e0 := e0) (by decide) T39_ok.1 T39_ok.2.1
  obtain ⟨-, -, g2⟩ := rdAll_3 (B := B40) (e0 := e0) (by decide) B40_ok.1 B40_ok.2.1
  obtain ⟨k1, k2⟩ := g1 T39_ok.2.2.1
  obtain ⟨k3, k4⟩ := g2 B40_ok.2.2.1
  obtain ⟨s1, s2, s3⟩ := T39_sg
  refine ⟨by decide, e0, (rdAll_iff (by decide)).mpr B40_ok, ?_, ?_⟩
  · rw [k1, k3, s1, s2, s3]
  · rw [k2, k4, s1, s2, s3]
section S9s
variable {E : GE} {d : Nat} {a adK adV ta : Nat → Nat} {A : Nat → Prop} {Q : Option Value → va_W → Prop} {W2 W3 RS : va_W} {C0 C1 : List Int32} {e0 e1 : Nat → Nat}
set_option maxRecDepth 20000 in
set_option maxHeartbeats 4000000 in
theorem i_dol2 (hE : g_E E adK adV ta) (h2 : Txt E a 44 C0 e0 W2) (h3 : Txt E a 54 C1 e1 W3) (hQ : ∀ w1 w2 w3 C e, RdrI E a 42 [] w1 → (∃ C' e', Txt E a 44 C' e' w2) → Txt E a 54 C e w3 → TX B40 C e → Q none ((a 0, dolO a 0 1) :: (a 48, raT E a) :: (((w1 ++ w2) ++ w3) ++ RS))) : G E mX7_init (d + 61) 85 3837 A Q 85 3837 183 [some (.ref (a 0)), some (.int 0)] [] ((a 0, dolO a 0 0) :: (a 48, raT E a) :: (((rdrW E a 42 z0f 0 0 22 0 0 ++ W2) ++ W3) ++ RS)) := by
  have hN := g_E_N hE
  have tc0 := tc_0
  have tc1 := tc_1
  have len : T39.length = 39 := rfl
  have lS : lnS 0 = 39 := rfl
  have loop : ∀ u i tp, i + u = 39 → tpOK (T39.take i) tp → G E mX7_init (d + 61) 85 3837 A Q 85 3837 183 [some (.ref (a 0)), some (.int (nI i))] [] ((a 0, dolO a 0 0) :: (a 48, raT E a) :: (rdrW E a 42 tp (nI (T39.take i).length) 0 22 0 0 ++ (W2 ++ (W3 ++ RS)))) := by
    intro u
    induction u with
    | zero =>
      intro i tp hi htp
      have ei := t_nI (n := i) (by omega)
      refine g_iload1 dX7_init_183 (g_ldcS hE 0 rfl dX7_init_184 ?_)
      refine g_VS0i hE (by omega) dX7_init_186 mv_X7_82 rfl rfl (Nat.le_of_ble_eq_true rfl) (Nat.le_of_ble_eq_true rfl) ((c_strLen (d := d + 58) hE (by omega)).none) (fun r w hq => ?_)
      obtain ⟨w3, ⟨rfl, hw3⟩, rfl⟩ := hq
      rw [List.append_nil] at hw3
      subst hw3
      rw [lS]
      have e39 := t_nI (n := 39) (by omega)
      refine g_icmp_ge (tgt := 211) dX7_init_189 (by decide) (fun h => ?_) (fun h => absurd h (by omega))
      refine g_aload0 dX7_init_211 (g_get fl_X7_43 0 rfl rfl dX7_init_212 (g_aload0 dX7_init_215 (g_get fl_X7_49 0 rfl rfl dX7_init_216 (g_iconst ki_0 dX7_init_219 (g_aaload 3 1 rfl rfl dX7_init_220 ⟨by omega, by rw [tc0]; show (0 : Int) < (6 : Nat); omega⟩ ?_)))))
      have z0 : (0 : Int32).toInt.toNat = 0 := by decide
      rw [z0]
      dsimp only [va_rf]
      have e : (((a 0, dolO a 0 0) :: (a 48, raT E a) :: ([] ++ (rdrW E a 42 tp (nI (T39.take i).length) 0 22 0 0 ++ (W2 ++ (W3 ++ RS)))) : va_W)) = [(a 0, dolO a 0 0), (a 48, raT E a)] ++ ((((rdrW E a 42 tp (nI (T39.take i).length) 0 22 0 0 ++ W2) ++ W3)) ++ RS) := by
        simp only [List.append_assoc, List.cons_append, List.nil_append]
      have e' : (([] ++ ((a 0, dolO a 0 0) :: (a 48, raT E a) :: (rdrW E a 42 tp (nI (T39.take i).length) 0 22 0 0 ++ (W2 ++ (W3 ++ RS)))) : va_W)) = [(a 0, dolO a 0 0), (a 48, raT E a)] ++ ((((rdrW E a 42 tp (nI (T39.take i).length) 0 22 0 0 ++ W2) ++ W3)) ++ RS) := by
        simp only [List.append_assoc, List.cons_append, List.nil_append]
      rw [e']
      have hT : T39.take i = T39 := List.take_of_length_le (by omega)
      rw [hT] at htp ⊢
      refine g_V1i dX7_init_221 mv_X7_96 2 rfl rfl rfl (Nat.le_of_ble_eq_true rfl) (Nat.le_of_ble_eq_true rfl) ((c_readInto (d := d) hE ⟨_, _, _, _, _, rfl, htp⟩ h2 h3).frame (X := [(a 0, dolO a 0 0), (a 48, raT E a)]) (Y := RS)) (fun r1 w1 hq => ?_)
      obtain ⟨w4, ⟨w1', w2', w3', rfl, m1, m2, m3, m4⟩, rfl⟩ := hq
      obtain ⟨rfl, m5⟩ := m3 ((rdAll_iff (by decide)).mpr T39_ok)
      refine g_pop dX7_init_224 rfl (g_aload0 dX7_init_225 (g_iconst ki_1 dX7_init_226 (g_put fl_X7_53 fp_6_8 0 rfl rfl rfl (Nat.le_of_ble_eq_true rfl) dX7_init_227 (g_vret rfl dX7_init_230 (Nat.le_of_ble_eq_true rfl) (Nat.le_of_ble_eq_true rfl) ?_))))
      exact hQ w1' w2' w3' _ _ m1 m2 m5 (T39_TX e0)
    | succ u ih =>
      intro i tp hi htp
      have ei := t_nI (n := i) (by omega)
      refine g_iload1 dX7_init_183 (g_ldcS hE 0 rfl dX7_init_184 ?_)
      refine g_VS0i hE (by omega) dX7_init_186 mv_X7_82 rfl rfl (Nat.le_of_ble_eq_true rfl) (Nat.le_of_ble_eq_true rfl) ((c_strLen (d := d + 58) hE (by omega)).none) (fun r w hq => ?_)
      obtain ⟨w3, ⟨rfl, hw3⟩, rfl⟩ := hq
      rw [List.append_nil] at hw3
      subst hw3
      rw [lS]
      have e39 := t_nI (n := 39) (by omega)
      refine g_icmp_ge (tgt := 211) dX7_init_189 (by decide) (fun h => absurd h (by omega)) (fun h => ?_)
      rw [List.nil_append]
      refine g_aload0 dX7_init_192 (g_get fl_X7_43 0 rfl rfl dX7_init_193 (g_ldcS hE 0 rfl dX7_init_196 (g_iload1 dX7_init_198 ?_)))
      refine g_VS1i hE (by omega) dX7_init_199 mv_X7_88 rfl rfl (Nat.le_of_ble_eq_true rfl) (Nat.le_of_ble_eq_true rfl) ((c_charAt (d := d + 56) (j := i) hE (by omega) (by omega)).none) (fun r w hq => ?_)
      obtain ⟨w3, ⟨rfl, hw3⟩, rfl⟩ := hq
      rw [List.append_nil] at hw3
      subst hw3
      rw [List.nil_append]
      obtain ⟨k1, k2⟩ := T39_by i (by omega)
      rw [k1]
      have htl : (T39.take i).length = i := by rw [List.length_take]; omega
      refine g_V1v dX7_init_202 mv_X7_92 2 rfl rfl rfl (Nat.le_of_ble_eq_true rfl) (Nat.le_of_ble_eq_true rfl) ((c_append (d := d + 59) hN htp (by omega) k2 0 22 0 0).frame (X := [(a 0, dolO a 0 0), (a 48, raT E a)]) (Y := W2 ++ (W3 ++ RS))) (fun w1 hq => ?_)
      obtain ⟨w4, ⟨tp', rfl, htp'⟩, rfl⟩ := hq
      refine g_iinc1 ki_1 dX7_init_205 rfl rfl (g_goto (tgt := 183) dX7_init_208 (by decide) ?_)
      have hts : T39.take i ++ [T39.getD i 0] = T39.take (i + 1) := by
        rw [List.take_succ, getD_at (l := T39) (i := i) (by omega)]; rfl
      rw [hts] at htp' ⊢
      rw [nI_1]
      exact ih (i + 1) tp' (by omega) htp'
  have e : (((rdrW E a 42 z0f 0 0 22 0 0 ++ W2) ++ W3) ++ RS) = rdrW E a 42 z0f (nI (T39.take 0).length) 0 22 0 0 ++ (W2 ++ (W3 ++ RS)) := by
    simp only [List.append_assoc]; rfl
  rw [e]
  exact loop 39 0 z0f (by omega) ⟨by decide, fun x hx => absurd hx List.not_mem_nil, fun i x h => absurd (show (none : Option Nat) = some x from h) (by simp)⟩
end S9s
def ndB (E : GE) (a : Nat → Nat) : Nat → va_W
  | 0 => [(a 0, dolO a 0 0)]
  | 1 => packW E a 1 z0f z0f z0f z0f z0f 0 0
  | 2 => rowW E a 7 z0f z0f z0f z0f z0f 0
  | 3 => packW E a 13 z0f z0f z0f z0f z0f 0 0
  | 4 => rowW E a 19 z0f z0f z0f z0f z0f 0
  | 5 => rowW E a 25 z0f z0f z0f z0f z0f 0
  | 6 => rowW E a 31 z0f z0f z0f z0f z0f 0
  | 7 => ordW E a 37 z0f z0f z0f z0f 0 0
  | 8 => rdrW E a 42 z0f 0 0 22 0 0
  | 9 => txtW E a 44 z0f z0f z0f 0 0
  | 10 => [(a 48, raT E a)]
  | 11 => [(a 49, ia E 6 z0f)]
  | 12 => [(a 50, raS E a)]
  | 13 => [(a 51, ia E 6 z0f), (a 52, ia E 4 z0f)]
  | 14 => [(a 53, ia E 36 z0f)]
  | 15 => txtW E a 54 z0f z0f z0f 0 0
  | 16 => txtW E a 58 z0f z0f z0f 0 0
  | 17 => txtW E a 62 z0f z0f z0f 0 0
  | 18 => txtW E a 66 z0f z0f z0f 0 0
  | 19 => txtW E a 70 z0f z0f z0f 0 0
  | 20 => txtW E a 74 z0f z0f z0f 0 0
  | 21 => shtW E a 78 z0f (-1) 0
  | 22 => shtW E a 80 z0f (-1) 0
  | 23 => shtW E a 82 z0f (-1) 0
  | 24 => shtW E a 84 z0f (-1) 0
  | _ => []
def D00 : Dg := ([], [], [], [], [])
theorem D00_ok : dgOK D00 := ⟨by decide, rfl, rfl, rfl, rfl, fun x h => absurd h List.not_mem_nil, fun x h => absurd h List.not_mem_nil, fun x h => absurd h List.not_mem_nil, fun x h => absurd h List.not_mem_nil, fun x h => absurd h List.not_mem_nil, List.nodup_nil⟩
theorem Lst_nil {f : Nat → Int32} : Lst [] f := fun i x h => absurd (show (none : Option Nat) = some x from h) (by simp)
section S9t
variable {E : GE} {d q : Nat} {a adK adV ta : Nat → Nat} {S' : State → Heap → Prop}
theorem Pck00 {k : Nat} : Pck E a k D00 0 (packW E a k z0f z0f z0f z0f z0f 0 0) := Pck.mk rfl rfl rfl D00_ok ⟨Lst_nil, Lst_nil, Lst_nil, Lst_nil, Lst_nil⟩
theorem Row00 {k : Nat} : Row E a k [] (rowW E a k z0f z0f z0f z0f z0f 0) := Row.mk rfl rfl (Nat.zero_le _) (fun i c h => absurd (show (none : Option Cr) = some c from h) (by simp))
theorem Txt00 {k : Nat} : Txt E a k [] (fun _ => 0) (txtW E a k z0f z0f z0f 0 0) := Txt.mk rfl rfl (Nat.zero_le _) (fun i c h => absurd (show (none : Option Int32) = some c from h) (by simp)) (fun p _ => ⟨rfl, Nat.zero_le _⟩)
theorem Sht00 {k : Nat} : Sht E a k (-1) [] (shtW E a k z0f (-1) 0) := Sht.mk rfl rfl (Nat.zero_le _) (fun i c h => absurd (show (none : Option Int32) = some c from h) (by simp))
/-- an address for each cell -/
theorem i_adr (l : List Nat) : ∃ a : Nat → Nat, ∀ i, a i = l.getD i 0 := ⟨fun i => l.getD i 0, fun _ => rfl⟩
set_option maxRecDepth 40000 in
set_option maxHeartbeats 8000000 in
theorem i_dol (hE : g_E E adK adV ta) (hst : g_St (E.1, E.2.1, E.2.2.1, E.2.2.2.1, S')) (hS0 : ∀ U H, S' U H → E.2.2.2.2 U H) (hAO : ∀ (U : State) (H : Heap), S' U H → va_AO "DogsOnLeads$Text" U ∧ va_AO "DogsOnLeads$Sheet" U) : g_C (E.1, E.2.1, E.2.2.1, E.2.2.2.1, S') mX7_init (d + 61) 85 3837 [.ref q] [(q, .inr (6, nwX7))] (fun v w => v = none ∧ ∃ a B tC tE, a 0 = q ∧ List.Perm w ((List.range 25).flatMap B) ∧ CB E a D00 0 [] D00 0 [] 0 1 [] tC tE (fun _ => (-1, [])) B ∧ TX B40 (tC 0) (tE 0)) := by
  have hN := g_E_N hE
  refine g_enter hst (by decide) [some (.ref q), none] rfl (Nat.le_of_ble_eq_true rfl) (fun A => ?_)
  refine i_dol0 ⟨hst, fun s H h => hN.2 s H (hS0 s H h)⟩ hAO (fun a1 a2 a3 a4 a5 a6 qT qN qS qO qP qW => g_weak hN.1 hS0 ?_)
  refine i_dol1 hN rfl rfl (fun t0 t1 t2 t3 t4 t5 s0 s1 s2 s3 => ?_)
  obtain ⟨a, ha⟩ := i_adr [q, a1 0, a1 1, a1 2, a1 3, a1 4, a1 5, a1 6, a1 7, a1 8, a1 9, a1 10, a1 11, a2 0, a2 1, a2 2, a2 3, a2 4, a2 5, a2 6, a2 7, a2 8, a2 9, a2 10, a2 11, a3 0, a3 1, a3 2, a3 3, a3 4, a3 5, a4 0, a4 1, a4 2, a4 3, a4 4, a4 5, a5 0, a5 1, a5 2, a5 3, a5 4, a6 0, a6 1, a6 2, a6 3, a6 4, a6 5, qT, qN, qS, qO, qP, qW, t0 0, t0 1, t0 2, t0 3, t1 0, t1 1, t1 2, t1 3, t2 0, t2 1, t2 2, t2 3, t3 0, t3 1, t3 2, t3 3, t4 0, t4 1, t4 2, t4 3, t5 0, t5 1, t5 2, t5 3, s0 0, s0 1, s1 0, s1 1, s2 0, s2 1, s3 0, s3 1]
  have h0 : a 0 = q := (ha 0).trans rfl
  have h1 : a 1 = a1 0 := (ha 1).trans rfl
  have h2 : a 2 = a1 1 := (ha 2).trans rfl
  have h3 : a 3 = a1 2 := (ha 3).trans rfl
  have h4 : a 4 = a1 3 := (ha 4).trans rfl
  have h5 : a 5 = a1 4 := (ha 5).trans rfl
  have h6 : a 6 = a1 5 := (ha 6).trans rfl
  have h7 : a 7 = a1 6 := (ha 7).trans rfl
  have h8 : a 8 = a1 7 := (ha 8).trans rfl
  have h9 : a 9 = a1 8 := (ha 9).trans rfl
  have h10 : a 10 = a1 9 := (ha 10).trans rfl
  have h11 : a 11 = a1 10 := (ha 11).trans rfl
  have h12 : a 12 = a1 11 := (ha 12).trans rfl
  have h13 : a 13 = a2 0 := (ha 13).trans rfl
  have h14 : a 14 = a2 1 := (ha 14).trans rfl
  have h15 : a 15 = a2 2 := (ha 15).trans rfl
  have h16 : a 16 = a2 3 := (ha 16).trans rfl
  have h17 : a 17 = a2 4 := (ha 17).trans rfl
  have h18 : a 18 = a2 5 := (ha 18).trans rfl
  have h19 : a 19 = a2 6 := (ha 19).trans rfl
  have h20 : a 20 = a2 7 := (ha 20).trans rfl
  have h21 : a 21 = a2 8 := (ha 21).trans rfl
  have h22 : a 22 = a2 9 := (ha 22).trans rfl
  have h23 : a 23 = a2 10 := (ha 23).trans rfl
  have h24 : a 24 = a2 11 := (ha 24).trans rfl
  have h25 : a 25 = a3 0 := (ha 25).trans rfl
  have h26 : a 26 = a3 1 := (ha 26).trans rfl
  have h27 : a 27 = a3 2 := (ha 27).trans rfl
  have h28 : a 28 = a3 3 := (ha 28).trans rfl
  have h29 : a 29 = a3 4 := (ha 29).trans rfl
  have h30 : a 30 = a3 5 := (ha 30).trans rfl
  have h31 : a 31 = a4 0 := (ha 31).trans rfl
  have h32 : a 32 = a4 1 := (ha 32).trans rfl
  have h33 : a 33 = a4 2 := (ha 33).trans rfl
  have h34 : a 34 = a4 3 := (ha 34).trans rfl
  have h35 : a 35 = a4 4 := (ha 35).trans rfl
  have h36 : a 36 = a4 5 := (ha 36).trans rfl
  have h37 : a 37 = a5 0 := (ha 37).trans rfl
  have h38 : a 38 = a5 1 := (ha 38).trans rfl
  have h39 : a 39 = a5 2 := (ha 39).trans rfl
  have h40 : a 40 = a5 3 := (ha 40).trans rfl
  have h41 : a 41 = a5 4 := (ha 41).trans rfl
  have h42 : a 42 = a6 0 := (ha 42).trans rfl
  have h43 : a 43 = a6 1 := (ha 43).trans rfl
  have h44 : a 44 = a6 2 := (ha 44).trans rfl
  have h45 : a 45 = a6 3 := (ha 45).trans rfl
  have h46 : a 46 = a6 4 := (ha 46).trans rfl
  have h47 : a 47 = a6 5 := (ha 47).trans rfl
  have h48 : a 48 = qT := (ha 48).trans rfl
  have h49 : a 49 = qN := (ha 49).trans rfl
  have h50 : a 50 = qS := (ha 50).trans rfl
  have h51 : a 51 = qO := (ha 51).trans rfl
  have h52 : a 52 = qP := (ha 52).trans rfl
  have h53 : a 53 = qW := (ha 53).trans rfl
  have h54 : a 54 = t0 0 := (ha 54).trans rfl
  have h55 : a 55 = t0 1 := (ha 55).trans rfl
  have h56 : a 56 = t0 2 := (ha 56).trans rfl
  have h57 : a 57 = t0 3 := (ha 57).trans rfl
  have h58 : a 58 = t1 0 := (ha 58).trans rfl
  have h59 : a 59 = t1 1 := (ha 59).trans rfl
  have h60 : a 60 = t1 2 := (ha 60).trans rfl
  have h61 : a 61 = t1 3 := (ha 61).trans rfl
  have h62 : a 62 = t2 0 := (ha 62).trans rfl
  have h63 : a 63 = t2 1 := (ha 63).trans rfl
  have h64 : a 64 = t2 2 := (ha 64).trans rfl
  have h65 : a 65 = t2 3 := (ha 65).trans rfl
  have h66 : a 66 = t3 0 := (ha 66).trans rfl
  have h67 : a 67 = t3 1 := (ha 67).trans rfl
  have h68 : a 68 = t3 2 := (ha 68).trans rfl
  have h69 : a 69 = t3 3 := (ha 69).trans rfl
  have h70 : a 70 = t4 0 := (ha 70).trans rfl
  have h71 : a 71 = t4 1 := (ha 71).trans rfl
  have h72 : a 72 = t4 2 := (ha 72).trans rfl
  have h73 : a 73 = t4 3 := (ha 73).trans rfl
  have h74 : a 74 = t5 0 := (ha 74).trans rfl
  have h75 : a 75 = t5 1 := (ha 75).trans rfl
  have h76 : a 76 = t5 2 := (ha 76).trans rfl
  have h77 : a 77 = t5 3 := (ha 77).trans rfl
  have h78 : a 78 = s0 0 := (ha 78).trans rfl
  have h79 : a 79 = s0 1 := (ha 79).trans rfl
  have h80 : a 80 = s1 0 := (ha 80).trans rfl
  have h81 : a 81 = s1 1 := (ha 81).trans rfl
  have h82 : a 82 = s2 0 := (ha 82).trans rfl
  have h83 : a 83 = s2 1 := (ha 83).trans rfl
  have h84 : a 84 = s3 0 := (ha 84).trans rfl
  have h85 : a 85 = s3 1 := (ha 85).trans rfl
  clear ha
  refine g_aeq (g := fun i => some (a (54 + 4 * i))) 1 rfl (fun i hi => ?_) ?_
  · match i, hi with
    | 0, _ => exact (congrArg some h54).symm
    | 1, _ => exact (congrArg some h58).symm
    | 2, _ => exact (congrArg some h62).symm
    | 3, _ => exact (congrArg some h66).symm
    | 4, _ => exact (congrArg some h70).symm
    | 5, _ => exact (congrArg some h74).symm
    | i + 6, h => exact absurd h (by omega)
  refine g_aeq (g := fun i => some (a (78 + 2 * i))) 2 rfl (fun i hi => ?_) ?_
  · match i, hi with
    | 0, _ => exact (congrArg some h78).symm
    | 1, _ => exact (congrArg some h80).symm
    | 2, _ => exact (congrArg some h82).symm
    | 3, _ => exact (congrArg some h84).symm
    | i + 4, h => exact absurd h (by omega)
  refine g_perm (ws' := bkF (ndB E a) [0, 10, 8, 9, 15, 1, 2, 3, 4, 5, 6, 7, 11, 12, 13, 14, 16, 17, 18, 19, 20, 21, 22, 23, 24]) ((pm_of (is := [0, 10, 8, 9, 15, 1, 2, 3, 4, 5, 6, 7, 11, 12, 13, 14, 16, 17, 18, 19, 20, 21, 22, 23, 24]) (js := [0, 10, 12, 1, 2, 3, 4, 5, 6, 7, 8, 9, 11, 13, 14, 15, 16, 17, 18, 19, 20, 21, 22, 23, 24]) (by decide)).trans (List.Perm.of_eq ?_)) ?_
  · simp only [bkF, ndB, dolO, raT, raS, List.append_assoc, List.cons_append, List.nil_append, List.set_cons_succ, List.set_cons_zero, Nat.reduceAdd, h0, h1, h2, h3, h4, h5, h6, h7, h8, h9, h10, h11, h12, h13, h14, h15, h16, h17, h18, h19, h20, h21, h22, h23, h24, h25, h26, h27, h28, h29, h30, h31, h32, h33, h34, h35, h36, h37, h38, h39, h40, h41, h42, h43, h44, h45, h46, h47, h48, h49, h50, h51, h52, h53, h54, h55, h56, h57, h58, h59, h60, h61, h62, h63, h64, h65, h66, h67, h68, h69, h70, h71, h72, h73, h74, h75, h76, h77, h78, h79, h80, h81, h82, h83, h84, h85]
    repeat (first | rfl | (refine congr (congrArg List.cons ?_) ?_))
    simp only [shtW, Nat.reduceAdd, Nat.zero_add, h84, h85]
  have e : bkF (ndB E a) [0, 10, 8, 9, 15, 1, 2, 3, 4, 5, 6, 7, 11, 12, 13, 14, 16, 17, 18, 19, 20, 21, 22, 23, 24] = (a 0, dolO a 0 0) :: (a 48, raT E a) :: (((rdrW E a 42 z0f 0 0 22 0 0 ++ txtW E a 44 z0f z0f z0f 0 0) ++ txtW E a 54 z0f z0f z0f 0 0) ++ bkF (ndB E a) [1, 2, 3, 4, 5, 6, 7, 11, 12, 13, 14, 16, 17, 18, 19, 20, 21, 22, 23, 24]) := by
    simp only [bkF, ndB, List.append_assoc, List.cons_append, List.nil_append]
  rw [e, ← h0]
  refine i_dol2 hE Txt00 Txt00 (fun w1 w2 w3 C e m1 m2 m3 m4 => ⟨rfl, a, bkU (ndB E a) [(0, [(a 0, dolO a 0 1)]), (8, w1), (9, w2), (15, w3)], updC (fun _ => []) 0 C, updE (fun _ _ => 0) 0 e, rfl, ?_, ?_, m4⟩)
  · rw [← bkF_flat]
    refine List.Perm.trans (List.Perm.of_eq ?_) (pm_of (is := [0, 10, 8, 9, 15, 1, 2, 3, 4, 5, 6, 7, 11, 12, 13, 14, 16, 17, 18, 19, 20, 21, 22, 23, 24]) (js := List.range 25) (by decide))
    simp only [bkF, bkU, ndB, List.append_assoc, List.cons_append, List.nil_append]
    rfl
  · refine ⟨rfl, Pck00, Row00, Pck00, Row00, ⟨_, Row00⟩, ⟨_, Row00⟩, ⟨_, _, _, _, _, _, rfl⟩, m1, m2, rfl, ⟨_, rfl⟩, rfl, ⟨_, _, rfl⟩, ⟨_, rfl⟩, fun i hi => ?_, fun i hi => ?_⟩
    · match i, hi with
      | 0, _ => exact m3
      | 1, _ => exact Txt00 (k := 58)
      | 2, _ => exact Txt00 (k := 62)
      | 3, _ => exact Txt00 (k := 66)
      | 4, _ => exact Txt00 (k := 70)
      | 5, _ => exact Txt00 (k := 74)
      | i + 6, h => exact absurd h (by omega)
    · match i, hi with
      | 0, _ => exact Sht00 (k := 78)
      | 1, _ => exact Sht00 (k := 80)
      | 2, _ => exact Sht00 (k := 82)
      | 3, _ => exact Sht00 (k := 84)
      | i + 4, h => exact absurd h (by omega)
end S9t
