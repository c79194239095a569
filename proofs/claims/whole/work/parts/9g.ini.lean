/-! the constructors -/
abbrev nwX0 : List Value := [.null, .null, .null, .null, .int 0, .int 0]
set_option maxRecDepth 20000 in
set_option maxHeartbeats 1000000 in
theorem nwX0_ok : ∀ j, j < 6 → defaultValue (tyX0 j) = vp_V nwX0 j := by
  intro j hj
  match j, hj with
  | 0, _ => rfl
  | 1, _ => rfl
  | 2, _ => rfl
  | 3, _ => rfl
  | 4, _ => rfl
  | 5, _ => rfl
  | j + 6, h => exact absurd h (by omega)
abbrev nwX1 : List Value := [.null, .null, .null, .null, .null, .null, .int 0, .int 0]
set_option maxRecDepth 20000 in
set_option maxHeartbeats 1000000 in
theorem nwX1_ok : ∀ j, j < 8 → defaultValue (tyX1 j) = vp_V nwX1 j := by
  intro j hj
  match j, hj with
  | 0, _ => rfl
  | 1, _ => rfl
  | 2, _ => rfl
  | 3, _ => rfl
  | 4, _ => rfl
  | 5, _ => rfl
  | 6, _ => rfl
  | 7, _ => rfl
  | j + 8, h => exact absurd h (by omega)
abbrev nwX2 : List Value := [.null, .null, .int 0, .int 0, .int 0, .int 0, .int 0]
set_option maxRecDepth 20000 in
set_option maxHeartbeats 1000000 in
theorem nwX2_ok : ∀ j, j < 7 → defaultValue (tyX2 j) = vp_V nwX2 j := by
  intro j hj
  match j, hj with
  | 0, _ => rfl
  | 1, _ => rfl
  | 2, _ => rfl
  | 3, _ => rfl
  | 4, _ => rfl
  | 5, _ => rfl
  | 6, _ => rfl
  | j + 7, h => exact absurd h (by omega)
abbrev nwX3 : List Value := [.null, .null, .null, .null, .null, .int 0]
set_option maxRecDepth 20000 in
set_option maxHeartbeats 1000000 in
theorem nwX3_ok : ∀ j, j < 6 → defaultValue (tyX3 j) = vp_V nwX3 j := by
  intro j hj
  match j, hj with
  | 0, _ => rfl
  | 1, _ => rfl
  | 2, _ => rfl
  | 3, _ => rfl
  | 4, _ => rfl
  | 5, _ => rfl
  | j + 6, h => exact absurd h (by omega)
abbrev nwX4 : List Value := [.null, .int 0, .int 0]
set_option maxRecDepth 20000 in
set_option maxHeartbeats 1000000 in
theorem nwX4_ok : ∀ j, j < 3 → defaultValue (tyX4 j) = vp_V nwX4 j := by
  intro j hj
  match j, hj with
  | 0, _ => rfl
  | 1, _ => rfl
  | 2, _ => rfl
  | j + 3, h => exact absurd h (by omega)
abbrev nwX5 : List Value := [.null, .null, .int 0, .null, .int 0]
set_option maxRecDepth 20000 in
set_option maxHeartbeats 1000000 in
theorem nwX5_ok : ∀ j, j < 5 → defaultValue (tyX5 j) = vp_V nwX5 j := by
  intro j hj
  match j, hj with
  | 0, _ => rfl
  | 1, _ => rfl
  | 2, _ => rfl
  | 3, _ => rfl
  | 4, _ => rfl
  | j + 5, h => exact absurd h (by omega)
abbrev nwX7 : List Value := [.null, .null, .int 0, .null, .null, .null, .null, .null, .int 0, .null, .null, .null, .null, .null]
set_option maxRecDepth 20000 in
set_option maxHeartbeats 1000000 in
theorem nwX7_ok : ∀ j, j < 14 → defaultValue (tyX7 j) = vp_V nwX7 j := by
  intro j hj
  match j, hj with
  | 0, _ => rfl
  | 1, _ => rfl
  | 2, _ => rfl
  | 3, _ => rfl
  | 4, _ => rfl
  | 5, _ => rfl
  | 6, _ => rfl
  | 7, _ => rfl
  | 8, _ => rfl
  | 9, _ => rfl
  | 10, _ => rfl
  | 11, _ => rfl
  | 12, _ => rfl
  | 13, _ => rfl
  | j + 14, h => exact absurd h (by omega)
abbrev nwX8 : List Value := [.int 0, .null, .null, .int 0, .int 0, .null, .int 0, .null, .null, .null, .null, .null, .int 0, .null, .null, .int 0, .int 0, .int 0, .int 0, .int 0, .int 0, .int 0, .int 0, .int 0, .int 0, .int 0, .int 0, .long 0, .int 0, .int 0, .int 0, .null, .null, .null, .int 0, .null, .null, .int 0, .null, .null, .int 0, .int 0, .null, .null, .int 0, .int 0, .null, .null, .null, .int 0, .int 0, .int 0, .null, .null, .null, .null]
set_option maxRecDepth 20000 in
set_option maxHeartbeats 1000000 in
theorem nwX8_ok : ∀ j, j < 56 → defaultValue (tyX8 j) = vp_V nwX8 j := by
  intro j hj
  match j, hj with
  | 0, _ => rfl
  | 1, _ => rfl
  | 2, _ => rfl
  | 3, _ => rfl
  | 4, _ => rfl
  | 5, _ => rfl
  | 6, _ => rfl
  | 7, _ => rfl
  | 8, _ => rfl
  | 9, _ => rfl
  | 10, _ => rfl
  | 11, _ => rfl
  | 12, _ => rfl
  | 13, _ => rfl
  | 14, _ => rfl
  | 15, _ => rfl
  | 16, _ => rfl
  | 17, _ => rfl
  | 18, _ => rfl
  | 19, _ => rfl
  | 20, _ => rfl
  | 21, _ => rfl
  | 22, _ => rfl
  | 23, _ => rfl
  | 24, _ => rfl
  | 25, _ => rfl
  | 26, _ => rfl
  | 27, _ => rfl
  | 28, _ => rfl
  | 29, _ => rfl
  | 30, _ => rfl
  | 31, _ => rfl
  | 32, _ => rfl
  | 33, _ => rfl
  | 34, _ => rfl
  | 35, _ => rfl
  | 36, _ => rfl
  | 37, _ => rfl
  | 38, _ => rfl
  | 39, _ => rfl
  | 40, _ => rfl
  | 41, _ => rfl
  | 42, _ => rfl
  | 43, _ => rfl
  | 44, _ => rfl
  | 45, _ => rfl
  | 46, _ => rfl
  | 47, _ => rfl
  | 48, _ => rfl
  | 49, _ => rfl
  | 50, _ => rfl
  | 51, _ => rfl
  | 52, _ => rfl
  | 53, _ => rfl
  | 54, _ => rfl
  | 55, _ => rfl
  | j + 56, h => exact absurd h (by omega)
section S9g0
variable {E : GE} {M : GM} {d mc ms : Nat} {A : Nat → Prop} {Q : Option Value → va_W → Prop} {k n pc : Nat} {ls : List (Option Value)} {ws : va_W}
theorem g_callI {M' : GM} {idx mc' ms' b : Nat} {rest : List Value} {Q' : Option Value → va_W → Prop} (hd : decode M.2.1 pc = .ok (.invokespecial idx, 3)) (hm : MI M.1.cls idx M' 0) (hr : (rest.map fun v => v.category).sum ≤ 8) (hC : g_C E M' d mc' ms' [.ref b] ws Q') (hk : k + mc' ≤ mc) (hk2 : n + ms' ≤ ms)
    (kk : ∀ (v : Option Value) (w : va_W), Q' v w → G E M (d + 1) mc ms A Q (k + mc') (n + ms') (pc + 3) ls (v.toList ++ rest) w) : G E M (d + 1) mc ms A Q k n pc ls (.ref b :: rest) ws := by
  intro p e s m args below meth c H locs ls0 hc hP hD hS hl
  obtain ⟨y, by', ml, ret⟩ := M'
  obtain ⟨h1, h2, h3, h4, h5⟩ := hm
  simp only at h5
  subst h5
  exact g_back (b := [.ref b]) hc hP hD hS hl kk (va_runI (Ts := g_wd M) (own := M.1.cls) (As := []) (rest := rest) (b := b) ⟨hc.1, hc.2.1, hc.2.2.2.2.1, hc.2.2.2.2.2.1, hc.2.2.2.2.2.2.1⟩ (hC H.size) ⟨g_callB hc.2.2.2.2.2.2.1 h1 h2, h4, hc.2.2.2.2.2.2.1 _ (List.mem_cons_of_mem _ h3)⟩
    ⟨g_blind hc.2.2.2.2.2.2.2.2.2.2.2.2.2, fun U hU hW => ⟨rfl, g_pre hc hP hD hS hU hW⟩⟩ rfl rfl hl.1 rfl (lv_room hr) hd ⟨hk, hk2⟩)
theorem g_callIN {M' : GM} {idx mc' ms' b : Nat} {rest : List Value} {Q' : Option Value → va_W → Prop} (hd : decode M.2.1 pc = .ok (.invokespecial idx, 3)) (hm : MIN E M.1.cls idx M' 0) (hr : (rest.map fun v => v.category).sum ≤ 8) (hC : g_C E M' d mc' ms' [.ref b] ws Q') (hk : k + mc' ≤ mc) (hk2 : n + ms' ≤ ms)
    (kk : ∀ (v : Option Value) (w : va_W), Q' v w → G E M (d + 1) mc ms A Q (k + mc') (n + ms') (pc + 3) ls (v.toList ++ rest) w) : G E M (d + 1) mc ms A Q k n pc ls (.ref b :: rest) ws := by
  intro p e s m args below meth c H locs ls0 hc hP hD hS hl
  obtain ⟨y, by', ml, ret⟩ := M'
  obtain ⟨h1, h3, h4, h5, host, hN⟩ := hm
  simp only at h5
  subst h5
  exact g_back (b := [.ref b]) hc hP hD hS hl kk (va_runIN (Ts := g_wd M) (own := M.1.cls) (host := host) (As := []) (rest := rest) (b := b) ⟨hc.1, hc.2.1, hc.2.2.2.2.1, hc.2.2.2.2.2.1, hc.2.2.2.2.2.2.1⟩ (hC H.size) ⟨g_callCN hc.2.2.2.2.2.2.1 h1 (hN s s.heap hc.2.2.2.2.2.2.2.2.1), h4, hc.2.2.2.2.2.2.1 _ (List.mem_cons_of_mem _ h3)⟩
    ⟨g_blind hc.2.2.2.2.2.2.2.2.2.2.2.2.2, fun U hU hW => ⟨rfl, g_pre hc hP hD hS hU hW⟩⟩ rfl rfl hl.1 rfl (lv_room hr) hd ⟨hk, hk2⟩)
end S9g0
def z0f : Nat → Int32 := fun _ => 0
/-- an address function out of a list, what follows out of another -/
def adr (l : List Nat) (g : Nat → Nat) : Nat → Nat := fun j => if j < l.length then l.getD j 0 else g (j - l.length)
section S9g
variable {E : GE} {d q : Nat}
set_option maxRecDepth 20000 in
set_option maxHeartbeats 1000000 in
theorem i_row (hN : g_N E) : g_C E mX3_init (d + 1) 5 200 [.ref q] [(q, .inr (3, nwX3))] (fun v w => v = none ∧ ∃ a, a 0 = q ∧ w = rowW E a 0 z0f z0f z0f z0f z0f 0) := by
  refine g_enter hN.1 (by decide) [some (.ref q)] rfl (Nat.le_of_ble_eq_true rfl) (fun A => ?_)
  refine g_aload0 dX3_init_0 (g_obj (gw_at (i := 113) (by decide +kernel) rfl) dX3_init_1 (g_aload0 dX3_init_4 (g_bipush kb_40 dX3_init_5 (g_newi (N := 40) (by decide) (by decide) dX3_init_7 (Nat.le_of_ble_eq_true rfl) (Nat.le_of_ble_eq_true rfl) (fun q7 => g_putF fl_X3_9 fp_3_0 rfl rfl 0 rfl rfl rfl (Nat.le_of_ble_eq_true rfl) dX3_init_9 (g_aload0 dX3_init_12 (g_bipush kb_40 dX3_init_13 (g_newi (N := 40) (by decide) (by decide) dX3_init_15 (Nat.le_of_ble_eq_true rfl) (Nat.le_of_ble_eq_true rfl) (fun q15 => g_putF fl_X3_15 fp_3_1 rfl rfl 0 rfl rfl rfl (Nat.le_of_ble_eq_true rfl) dX3_init_17 (g_aload0 dX3_init_20 (g_bipush kb_40 dX3_init_21 (g_newi (N := 40) (by decide) (by decide) dX3_init_23 (Nat.le_of_ble_eq_true rfl) (Nat.le_of_ble_eq_true rfl) (fun q23 => g_putF fl_X3_18 fp_3_2 rfl rfl 0 rfl rfl rfl (Nat.le_of_ble_eq_true rfl) dX3_init_25 (g_aload0 dX3_init_28 (g_bipush kb_40 dX3_init_29 (g_newi (N := 40) (by decide) (by decide) dX3_init_31 (Nat.le_of_ble_eq_true rfl) (Nat.le_of_ble_eq_true rfl) (fun q31 => g_putF fl_X3_21 fp_3_3 rfl rfl 0 rfl rfl rfl (Nat.le_of_ble_eq_true rfl) dX3_init_33 (g_aload0 dX3_init_36 (g_bipush kb_40 dX3_init_37 (g_newi (N := 40) (by decide) (by decide) dX3_init_39 (Nat.le_of_ble_eq_true rfl) (Nat.le_of_ble_eq_true rfl) (fun q39 => g_putF fl_X3_24 fp_3_4 rfl rfl 0 rfl rfl rfl (Nat.le_of_ble_eq_true rfl) dX3_init_41 (g_aload0 dX3_init_44 (g_iconst ki_0 dX3_init_45 (g_put fl_X3_27 fp_3_5 0 rfl rfl rfl (Nat.le_of_ble_eq_true rfl) dX3_init_46 (g_vret rfl dX3_init_49 (Nat.le_of_ble_eq_true rfl) (Nat.le_of_ble_eq_true rfl) ?q49)))))))))))))))))))))))))
  case q49 => exact ⟨rfl, adr [q, q7, q15, q23, q31, q39] id, rfl, rfl⟩
set_option maxRecDepth 20000 in
set_option maxHeartbeats 1000000 in
theorem i_text (hN : g_N E) : g_C E mX5_init (d + 1) 3 323 [.ref q] [(q, .inr (5, nwX5))] (fun v w => v = none ∧ ∃ a, a 0 = q ∧ w = txtW E a 0 z0f z0f z0f 0 0) := by
  refine g_enter hN.1 (by decide) [some (.ref q)] rfl (Nat.le_of_ble_eq_true rfl) (fun A => ?_)
  refine g_aload0 dX5_init_0 (g_obj (gw_at (i := 213) (by decide +kernel) rfl) dX5_init_1 (g_aload0 dX5_init_4 (g_sipush ks_160 dX5_init_5 (g_newi (N := 160) (by decide) (by decide) dX5_init_8 (Nat.le_of_ble_eq_true rfl) (Nat.le_of_ble_eq_true rfl) (fun q8 => g_putF fl_X5_9 fp_5_0 rfl rfl 0 rfl rfl rfl (Nat.le_of_ble_eq_true rfl) dX5_init_10 (g_aload0 dX5_init_13 (g_iconst ki_3 dX5_init_14 (g_newi (N := 3) (by decide) (by decide) dX5_init_15 (Nat.le_of_ble_eq_true rfl) (Nat.le_of_ble_eq_true rfl) (fun q15 => g_putF fl_X5_15 fp_5_1 rfl rfl 0 rfl rfl rfl (Nat.le_of_ble_eq_true rfl) dX5_init_17 (g_aload0 dX5_init_20 (g_iconst ki_0 dX5_init_21 (g_put fl_X5_18 fp_5_2 0 rfl rfl rfl (Nat.le_of_ble_eq_true rfl) dX5_init_22 (g_aload0 dX5_init_25 (g_sipush ks_160 dX5_init_26 (g_newi (N := 160) (by decide) (by decide) dX5_init_29 (Nat.le_of_ble_eq_true rfl) (Nat.le_of_ble_eq_true rfl) (fun q29 => g_putF fl_X5_22 fp_5_3 rfl rfl 0 rfl rfl rfl (Nat.le_of_ble_eq_true rfl) dX5_init_31 (g_aload0 dX5_init_34 (g_iconst ki_0 dX5_init_35 (g_put fl_X5_25 fp_5_4 0 rfl rfl rfl (Nat.le_of_ble_eq_true rfl) dX5_init_36 (g_vret rfl dX5_init_39 (Nat.le_of_ble_eq_true rfl) (Nat.le_of_ble_eq_true rfl) ?q39))))))))))))))))))))
  case q39 => exact ⟨rfl, adr [q, q8, q15, q29] id, rfl, rfl⟩
set_option maxRecDepth 20000 in
set_option maxHeartbeats 1000000 in
theorem i_sheet (hN : g_N E) : g_C E mX4_init (d + 1) 1 40 [.ref q] [(q, .inr (4, nwX4))] (fun v w => v = none ∧ ∃ a, a 0 = q ∧ w = shtW E a 0 z0f (-1) 0) := by
  refine g_enter hN.1 (by decide) [some (.ref q)] rfl (Nat.le_of_ble_eq_true rfl) (fun A => ?_)
  refine g_aload0 dX4_init_0 (g_obj (gw_at (i := 262) (by decide +kernel) rfl) dX4_init_1 (g_aload0 dX4_init_4 (g_bipush kb_40 dX4_init_5 (g_newi (N := 40) (by decide) (by decide) dX4_init_7 (Nat.le_of_ble_eq_true rfl) (Nat.le_of_ble_eq_true rfl) (fun q7 => g_putF fl_X4_9 fp_4_0 rfl rfl 0 rfl rfl rfl (Nat.le_of_ble_eq_true rfl) dX4_init_9 (g_aload0 dX4_init_12 (g_iconst ki_m1 dX4_init_13 (g_put fl_X4_15 fp_4_1 0 rfl rfl rfl (Nat.le_of_ble_eq_true rfl) dX4_init_14 (g_aload0 dX4_init_17 (g_iconst ki_0 dX4_init_18 (g_put fl_X4_19 fp_4_2 0 rfl rfl rfl (Nat.le_of_ble_eq_true rfl) dX4_init_19 (g_vret rfl dX4_init_22 (Nat.le_of_ble_eq_true rfl) (Nat.le_of_ble_eq_true rfl) ?q22))))))))))))
  case q22 => exact ⟨rfl, adr [q, q7] id, rfl, rfl⟩
set_option maxRecDepth 20000 in
set_option maxHeartbeats 1000000 in
theorem i_orders (hN : g_N E) : g_C E mX0_init (d + 1) 4 234 [.ref q] [(q, .inr (0, nwX0))] (fun v w => v = none ∧ ∃ a, a 0 = q ∧ w = ordW E a 0 z0f z0f z0f z0f 0 0) := by
  refine g_enter hN.1 (by decide) [some (.ref q)] rfl (Nat.le_of_ble_eq_true rfl) (fun A => ?_)
  refine g_aload0 dX0_init_0 (g_obj (gw_at (i := 180) (by decide +kernel) rfl) dX0_init_1 (g_aload0 dX0_init_4 (g_bipush kb_6 dX0_init_5 (g_newi (N := 6) (by decide) (by decide) dX0_init_7 (Nat.le_of_ble_eq_true rfl) (Nat.le_of_ble_eq_true rfl) (fun q7 => g_putF fl_X0_9 fp_0_0 rfl rfl 0 rfl rfl rfl (Nat.le_of_ble_eq_true rfl) dX0_init_9 (g_aload0 dX0_init_12 (g_bipush kb_6 dX0_init_13 (g_newi (N := 6) (by decide) (by decide) dX0_init_15 (Nat.le_of_ble_eq_true rfl) (Nat.le_of_ble_eq_true rfl) (fun q15 => g_putF fl_X0_15 fp_0_1 rfl rfl 0 rfl rfl rfl (Nat.le_of_ble_eq_true rfl) dX0_init_17 (g_aload0 dX0_init_20 (g_sipush ks_216 dX0_init_21 (g_newi (N := 216) (by decide) (by decide) dX0_init_24 (Nat.le_of_ble_eq_true rfl) (Nat.le_of_ble_eq_true rfl) (fun q24 => g_putF fl_X0_18 fp_0_2 rfl rfl 0 rfl rfl rfl (Nat.le_of_ble_eq_true rfl) dX0_init_26 (g_aload0 dX0_init_29 (g_bipush kb_6 dX0_init_30 (g_newi (N := 6) (by decide) (by decide) dX0_init_32 (Nat.le_of_ble_eq_true rfl) (Nat.le_of_ble_eq_true rfl) (fun q32 => g_putF fl_X0_21 fp_0_3 rfl rfl 0 rfl rfl rfl (Nat.le_of_ble_eq_true rfl) dX0_init_34 (g_aload0 dX0_init_37 (g_iconst ki_0 dX0_init_38 (g_put fl_X0_24 fp_0_4 0 rfl rfl rfl (Nat.le_of_ble_eq_true rfl) dX0_init_39 (g_aload0 dX0_init_42 (g_iconst ki_0 dX0_init_43 (g_put fl_X0_28 fp_0_5 0 rfl rfl rfl (Nat.le_of_ble_eq_true rfl) dX0_init_44 (g_vret rfl dX0_init_47 (Nat.le_of_ble_eq_true rfl) (Nat.le_of_ble_eq_true rfl) ?q47))))))))))))))))))))))))
  case q47 => exact ⟨rfl, adr [q, q7, q15, q24, q32] id, rfl, rfl⟩
set_option maxRecDepth 20000 in
set_option maxHeartbeats 1000000 in
theorem i_pack (hN : g_N E) : g_C E mX1_init (d + 2) 11 236 [.ref q] [(q, .inr (1, nwX1))] (fun v w => v = none ∧ ∃ a, a 0 = q ∧ w = packW E a 0 z0f z0f z0f z0f z0f 0 0 ++ rowW E a 6 z0f z0f z0f z0f z0f 0) := by
  refine g_enter hN.1 (by decide) [some (.ref q)] rfl (Nat.le_of_ble_eq_true rfl) (fun A => ?_)
  refine g_aload0 dX1_init_0 (g_obj (gw_at (i := 107) (by decide +kernel) rfl) dX1_init_1 (g_aload0 dX1_init_4 (g_bipush kb_6 dX1_init_5 (g_newi (N := 6) (by decide) (by decide) dX1_init_7 (Nat.le_of_ble_eq_true rfl) (Nat.le_of_ble_eq_true rfl) (fun q7 => g_putF fl_X1_9 fp_1_0 rfl rfl 0 rfl rfl rfl (Nat.le_of_ble_eq_true rfl) dX1_init_9 (g_aload0 dX1_init_12 (g_bipush kb_6 dX1_init_13 (g_newi (N := 6) (by decide) (by decide) dX1_init_15 (Nat.le_of_ble_eq_true rfl) (Nat.le_of_ble_eq_true rfl) (fun q15 => g_putF fl_X1_15 fp_1_1 rfl rfl 0 rfl rfl rfl (Nat.le_of_ble_eq_true rfl) dX1_init_17 (g_aload0 dX1_init_20 (g_bipush kb_6 dX1_init_21 (g_newi (N := 6) (by decide) (by decide) dX1_init_23 (Nat.le_of_ble_eq_true rfl) (Nat.le_of_ble_eq_true rfl) (fun q23 => g_putF fl_X1_18 fp_1_2 rfl rfl 0 rfl rfl rfl (Nat.le_of_ble_eq_true rfl) dX1_init_25 (g_aload0 dX1_init_28 (g_bipush kb_6 dX1_init_29 (g_newi (N := 6) (by decide) (by decide) dX1_init_31 (Nat.le_of_ble_eq_true rfl) (Nat.le_of_ble_eq_true rfl) (fun q31 => g_putF fl_X1_21 fp_1_3 rfl rfl 0 rfl rfl rfl (Nat.le_of_ble_eq_true rfl) dX1_init_33 (g_aload0 dX1_init_36 (g_bipush kb_6 dX1_init_37 (g_newi (N := 6) (by decide) (by decide) dX1_init_39 (Nat.le_of_ble_eq_true rfl) (Nat.le_of_ble_eq_true rfl) (fun q39 => g_putF fl_X1_24 fp_1_4 rfl rfl 0 rfl rfl rfl (Nat.le_of_ble_eq_true rfl) dX1_init_41 (g_aload0 dX1_init_44 (g_new (ci := 3) (r := (RX3, TX3, 6)) (fs := nwX3) rfl tyX3 tyX3_ok gu_3 (gw_at (i := 108) (by decide +kernel) rfl) (gw_at (i := 109) (by decide +kernel) rfl) (gw_at (i := 79) (by decide +kernel) rfl) nwX3_ok dX1_init_45 (Nat.le_of_ble_eq_true rfl) (Nat.le_of_ble_eq_true rfl) (fun q45 => g_dup dX1_init_48 rfl (?c49)))))))))))))))))))))))))
  case c49 =>
    refine g_callIN dX1_init_49 (mn_X1_29 hN) (Nat.le_of_ble_eq_true rfl) (g_frame (X := [(q, .inr (1, [.ref q7, .ref q15, .ref q23, .ref q31, .ref q39, .null, .int 0, .int 0])), (q7, ia E 6 z0f), (q15, ia E 6 z0f), (q23, ia E 6 z0f), (q31, ia E 6 z0f), (q39, ia E 6 z0f)]) (Y := []) (i_row hN)) (Nat.le_of_ble_eq_true rfl) (Nat.le_of_ble_eq_true rfl) (fun v_ w_ hq => ?_)
    obtain ⟨w1, ⟨rfl, a', rfl, rfl⟩, rfl⟩ := hq
    refine g_putF fl_X1_30 fp_1_5 rfl rfl 0 rfl rfl rfl (Nat.le_of_ble_eq_true rfl) dX1_init_52 (g_aload0 dX1_init_55 (g_iconst ki_0 dX1_init_56 (g_put fl_X1_34 fp_1_6 0 rfl rfl rfl (Nat.le_of_ble_eq_true rfl) dX1_init_57 (g_aload0 dX1_init_60 (g_iconst ki_0 dX1_init_61 (g_put fl_X1_38 fp_1_7 0 rfl rfl rfl (Nat.le_of_ble_eq_true rfl) dX1_init_62 (g_vret rfl dX1_init_65 (Nat.le_of_ble_eq_true rfl) (Nat.le_of_ble_eq_true rfl) ?q65_2)))))))
    exact ⟨rfl, adr [q, q7, q15, q23, q31, q39] a', rfl, rfl⟩
set_option maxRecDepth 20000 in
set_option maxHeartbeats 1000000 in
theorem i_reader (hN : g_N E) : g_C E mX2_init (d + 2) 5 488 [.ref q] [(q, .inr (2, nwX2))] (fun v w => v = none ∧ ∃ a, a 0 = q ∧ w = rdrW E a 0 z0f 0 0 22 0 0 ++ txtW E a 2 z0f z0f z0f 0 0) := by
  refine g_enter hN.1 (by decide) [some (.ref q)] rfl (Nat.le_of_ble_eq_true rfl) (fun A => ?_)
  refine g_aload0 dX2_init_0 (g_obj (gw_at (i := 207) (by decide +kernel) rfl) dX2_init_1 (g_aload0 dX2_init_4 (g_sipush ks_160 dX2_init_5 (g_newi (N := 160) (by decide) (by decide) dX2_init_8 (Nat.le_of_ble_eq_true rfl) (Nat.le_of_ble_eq_true rfl) (fun q8 => g_putF fl_X2_9 fp_2_0 rfl rfl 0 rfl rfl rfl (Nat.le_of_ble_eq_true rfl) dX2_init_10 (g_aload0 dX2_init_13 (g_new (ci := 5) (r := (RX5, TX5, 5)) (fs := nwX5) rfl tyX5 tyX5_ok gu_5 (gw_at (i := 208) (by decide +kernel) rfl) (gw_at (i := 209) (by decide +kernel) rfl) (gw_at (i := 82) (by decide +kernel) rfl) nwX5_ok dX2_init_14 (Nat.le_of_ble_eq_true rfl) (Nat.le_of_ble_eq_true rfl) (fun q14 => g_dup dX2_init_17 rfl (?c18)))))))))
  case c18 =>
    refine g_callIN dX2_init_18 (mn_X2_17 hN) (Nat.le_of_ble_eq_true rfl) (g_frame (X := [(q, .inr (2, [.ref q8, .null, .int 0, .int 0, .int 0, .int 0, .int 0])), (q8, ia E 160 z0f)]) (Y := []) (i_text hN)) (Nat.le_of_ble_eq_true rfl) (Nat.le_of_ble_eq_true rfl) (fun v_ w_ hq => ?_)
    obtain ⟨w1, ⟨rfl, a', rfl, rfl⟩, rfl⟩ := hq
    refine g_putF fl_X2_18 fp_2_1 rfl rfl 0 rfl rfl rfl (Nat.le_of_ble_eq_true rfl) dX2_init_21 (g_aload0 dX2_init_24 (g_iconst ki_0 dX2_init_25 (g_put fl_X2_22 fp_2_2 0 rfl rfl rfl (Nat.le_of_ble_eq_true rfl) dX2_init_26 (g_aload0 dX2_init_29 (g_iconst ki_0 dX2_init_30 (g_put fl_X2_26 fp_2_3 0 rfl rfl rfl (Nat.le_of_ble_eq_true rfl) dX2_init_31 (g_aload0 dX2_init_34 (g_bipush kb_22 dX2_init_35 (g_put fl_X2_31 fp_2_4 0 rfl rfl rfl (Nat.le_of_ble_eq_true rfl) dX2_init_37 (g_aload0 dX2_init_40 (g_iconst ki_0 dX2_init_41 (g_put fl_X2_34 fp_2_5 0 rfl rfl rfl (Nat.le_of_ble_eq_true rfl) dX2_init_42 (g_aload0 dX2_init_45 (g_iconst ki_0 dX2_init_46 (g_put fl_X2_37 fp_2_6 0 rfl rfl rfl (Nat.le_of_ble_eq_true rfl) dX2_init_47 (g_vret rfl dX2_init_50 (Nat.le_of_ble_eq_true rfl) (Nat.le_of_ble_eq_true rfl) ?q50_2))))))))))))))))
    exact ⟨rfl, adr [q, q8] a', rfl, rfl⟩
end S9g
