section G30b
variable {E : GE} {M : GM} {d mc ms : Nat} {A : Nat → Prop} {Q : Option Value → va_W → Prop} {k n pc : Nat} {st : List Value} {ws : va_W} {ls : List (Option Value)}
theorem g_S2v {M' : GM} {idx : Nat} {v1 v2 : Value} {Q0 : va_W → Prop} (hd : decode M.2.1 pc = .ok (.invokestatic idx, 3)) (hm : MS M.1.cls idx M' 2) (hr : Nat.ble (st.map fun v => v.category).sum 8 = true) (hk : k ≤ mc) (hk2 : n ≤ ms) (hC : g_Cv E M' d [v1, v2] ws Q0) (kk : ∀ (w : va_W), Q0 w → G E M (d + 1) mc ms A Q k n (pc + 3) ls st w) : G E M (d + 1) mc ms A Q k n pc ls (v2 :: v1 :: st) ws :=
  g_callS (As := [v1, v2]) (rest := st) hd hm rfl (Nat.le_of_ble_eq_true hr) hC hk hk2 (fun v w hq => by obtain ⟨rfl, hq⟩ := hq; exact kk w hq)
theorem g_S4i {M' : GM} {idx : Nat} {v1 v2 v3 v4 : Value} {Q0 : Int32 → va_W → Prop} (hd : decode M.2.1 pc = .ok (.invokestatic idx, 3)) (hm : MS M.1.cls idx M' 4) (hr : Nat.ble (st.map fun v => v.category).sum 8 = true) (hk : k ≤ mc) (hk2 : n ≤ ms) (hC : g_Ci E M' d [v1, v2, v3, v4] ws Q0) (kk : ∀ (r : Int32) (w : va_W), Q0 r w → G E M (d + 1) mc ms A Q k n (pc + 3) ls (.int r :: st) w) : G E M (d + 1) mc ms A Q k n pc ls (v4 :: v3 :: v2 :: v1 :: st) ws :=
  g_callS (As := [v1, v2, v3, v4]) (rest := st) hd hm rfl (Nat.le_of_ble_eq_true hr) hC hk hk2 (fun v w hq => by obtain ⟨r, rfl, hq⟩ := hq; exact kk r w hq)
end G30b
