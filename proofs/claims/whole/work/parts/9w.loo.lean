/-! the law: its loop -/
section S9w
variable {E : GE} {adK adV ta a b : Nat → Nat} {sb L : Nat} {xs : Nat → Int32} {A : Nat → Prop}
set_option maxRecDepth 20000 in
set_option maxHeartbeats 4000000 in
theorem lw_case (hE : g_E E adK adV ta) (hsb : sb < E.2.2.2.1) {x3 : Int32} {ws : va_W} (hI : IB L x3) (h : LW E a b ws) (y : Int32) (kk : ∀ ws', LW E a b ws' → G (lwE E sb L xs) mL_law 1750 600000 7302250 A lwQ 113 5607 1231 [some (.ref sb), some (.ref (a 0)), some (.ref (b 0)), some (.int x3)] [] ws') : G (lwE E sb L xs) mL_law 1750 600000 7302250 A lwQ 113 5607 33 [some (.ref sb), some (.ref (a 0)), some (.ref (b 0)), some (.int x3)] [.int y] ws := by
  refine g_case (c := 0) (fun h33 => g_tsw_in (tgt := 192) 0 dL_law_33 h33 (by decide) rfl (by decide) (lc_dog hE hsb hI h kk)) (fun n0 => ?_)
  refine g_case (c := 1) (fun h33 => g_tsw_in (tgt := 235) 1 dL_law_33 h33 (by decide) rfl (by decide) (lc_set hE hsb hI h kk)) (fun n1 => ?_)
  refine g_case (c := 2) (fun h33 => g_tsw_in (tgt := 278) 2 dL_law_33 h33 (by decide) rfl (by decide) (lc_told hE hsb hI h kk)) (fun n2 => ?_)
  refine g_case (c := 3) (fun h33 => g_tsw_in (tgt := 311) 3 dL_law_33 h33 (by decide) rfl (by decide) (lc_asks hE hsb hI h kk)) (fun n3 => ?_)
  refine g_case (c := 4) (fun h33 => g_tsw_in (tgt := 354) 4 dL_law_33 h33 (by decide) rfl (by decide) (lc_feed hE hsb hI h kk)) (fun n4 => ?_)
  refine g_case (c := 5) (fun h33 => g_tsw_in (tgt := 377) 5 dL_law_33 h33 (by decide) rfl (by decide) (lc_text hE hsb hI h kk)) (fun n5 => ?_)
  refine g_case (c := 6) (fun h33 => g_tsw_in (tgt := 390) 6 dL_law_33 h33 (by decide) rfl (by decide) (lc_force hE hsb hI h kk)) (fun n6 => ?_)
  refine g_case (c := 7) (fun h33 => g_tsw_in (tgt := 413) 7 dL_law_33 h33 (by decide) rfl (by decide) (lc_cross hE hsb hI h kk)) (fun n7 => ?_)
  refine g_case (c := 8) (fun h33 => g_tsw_in (tgt := 446) 8 dL_law_33 h33 (by decide) rfl (by decide) (lc_undo hE hsb hI h kk)) (fun n8 => ?_)
  refine g_case (c := 9) (fun h33 => g_tsw_in (tgt := 459) 9 dL_law_33 h33 (by decide) rfl (by decide) (lc_comb hE hsb hI h kk)) (fun n9 => ?_)
  refine g_case (c := 10) (fun h33 => g_tsw_in (tgt := 472) 10 dL_law_33 h33 (by decide) rfl (by decide) (lc_at hE hsb hI h kk)) (fun n10 => ?_)
  refine g_case (c := 11) (fun h33 => g_tsw_in (tgt := 495) 11 dL_law_33 h33 (by decide) rfl (by decide) (lc_left hE hsb hI h kk)) (fun n11 => ?_)
  refine g_case (c := 12) (fun h33 => g_tsw_in (tgt := 518) 12 dL_law_33 h33 (by decide) rfl (by decide) (lc_who hE hsb hI h kk)) (fun n12 => ?_)
  refine g_case (c := 13) (fun h33 => g_tsw_in (tgt := 551) 13 dL_law_33 h33 (by decide) rfl (by decide) (lc_without hE hsb hI h kk)) (fun n13 => ?_)
  refine g_case (c := 14) (fun h33 => g_tsw_in (tgt := 574) 14 dL_law_33 h33 (by decide) rfl (by decide) (lc_unclip hE hsb hI h kk)) (fun n14 => ?_)
  refine g_case (c := 15) (fun h33 => g_tsw_in (tgt := 597) 15 dL_law_33 h33 (by decide) rfl (by decide) (lc_cost hE hsb hI h kk)) (fun n15 => ?_)
  refine g_case (c := 16) (fun h33 => g_tsw_in (tgt := 610) 16 dL_law_33 h33 (by decide) rfl (by decide) (lc_atOdds hE hsb hI h kk)) (fun n16 => ?_)
  refine g_case (c := 17) (fun h33 => g_tsw_in (tgt := 633) 17 dL_law_33 h33 (by decide) rfl (by decide) (lc_best hE hsb hI h kk)) (fun n17 => ?_)
  refine g_case (c := 18) (fun h33 => g_tsw_in (tgt := 656) 18 dL_law_33 h33 (by decide) rfl (by decide) (lc_swaps hE hsb hI h kk)) (fun n18 => ?_)
  refine g_case (c := 19) (fun h33 => g_tsw_in (tgt := 679) 19 dL_law_33 h33 (by decide) rfl (by decide) (lc_post hE hsb hI h kk)) (fun n19 => ?_)
  refine g_case (c := 20) (fun h33 => g_tsw_in (tgt := 712) 20 dL_law_33 h33 (by decide) rfl (by decide) (lc_bestPost hE hsb hI h kk)) (fun n20 => ?_)
  refine g_case (c := 21) (fun h33 => g_tsw_in (tgt := 735) 21 dL_law_33 h33 (by decide) rfl (by decide) (lc_seen hE hsb hI h kk)) (fun n21 => ?_)
  refine g_case (c := 22) (fun h33 => g_tsw_in (tgt := 778) 22 dL_law_33 h33 (by decide) rfl (by decide) (lc_fetch hE hsb hI h kk)) (fun n22 => ?_)
  refine g_case (c := 23) (fun h33 => g_tsw_in (tgt := 791) 23 dL_law_33 h33 (by decide) rfl (by decide) (lc_fetched hE hsb hI h kk)) (fun n23 => ?_)
  refine g_case (c := 24) (fun h33 => g_tsw_in (tgt := 814) 24 dL_law_33 h33 (by decide) rfl (by decide) (lc_walk hE hsb hI h kk)) (fun n24 => ?_)
  refine g_case (c := 25) (fun h33 => g_tsw_in (tgt := 827) 25 dL_law_33 h33 (by decide) rfl (by decide) (lc_take hE hsb hI h kk)) (fun n25 => ?_)
  refine g_case (c := 26) (fun h33 => g_tsw_in (tgt := 850) 26 dL_law_33 h33 (by decide) rfl (by decide) (lc_drawn hE hsb hI h kk)) (fun n26 => ?_)
  refine g_case (c := 27) (fun h33 => g_tsw_in (tgt := 883) 27 dL_law_33 h33 (by decide) rfl (by decide) (lc_chance hE hsb hI h kk)) (fun n27 => ?_)
  refine g_case (c := 28) (fun h33 => g_tsw_in (tgt := 947) 28 dL_law_33 h33 (by decide) rfl (by decide) (lc_image hE hsb hI h kk)) (fun n28 => ?_)
  refine g_case (c := 29) (fun h33 => g_tsw_in (tgt := 960) 29 dL_law_33 h33 (by decide) rfl (by decide) (lc_back hE hsb hI h kk)) (fun n29 => ?_)
  refine g_case (c := 30) (fun h33 => g_tsw_in (tgt := 973) 30 dL_law_33 h33 (by decide) rfl (by decide) (lc_count hE hsb hI h kk)) (fun n30 => ?_)
  refine g_case (c := 31) (fun h33 => g_tsw_in (tgt := 996) 31 dL_law_33 h33 (by decide) rfl (by decide) (lc_sheet hE hsb hI h kk)) (fun n31 => ?_)
  refine g_case (c := 32) (fun h33 => g_tsw_in (tgt := 1039) 32 dL_law_33 h33 (by decide) rfl (by decide) (lc_cell hE hsb hI h kk)) (fun n32 => ?_)
  refine g_case (c := 33) (fun h33 => g_tsw_in (tgt := 1082) 33 dL_law_33 h33 (by decide) rfl (by decide) (lc_copy hE hsb hI h kk)) (fun n33 => ?_)
  refine g_case (c := 34) (fun h33 => g_tsw_in (tgt := 1145) 34 dL_law_33 h33 (by decide) rfl (by decide) (lc_crossings hE hsb hI h kk)) (fun n34 => ?_)
  refine g_case (c := 35) (fun h33 => g_tsw_in (tgt := 1198) 35 dL_law_33 h33 (by decide) rfl (by decide) (lc_taken hE hsb hI h kk)) (fun n35 => ?_)
  exact g_tsw_out (tgt := 1231) dL_law_33 (by omega) (by decide) (kk _ h)
set_option maxHeartbeats 4000000 in
theorem lw_loop (hE : g_E E adK adV ta) (hsb : sb < E.2.2.2.1) (hL : L ≤ 3072) : ∀ (u i : Nat) (ws : va_W), i ≤ L → L < i + u → LW E a b ws → G (lwE E sb L xs) mL_law 1750 600000 7302250 A lwQ 113 5607 18 [some (.ref sb), some (.ref (a 0)), some (.ref (b 0)), some (.int (nI i))] [] ws := by
  have tc6 := tc_6
  intro u
  induction u with
  | zero => intro i ws h1 h2; omega
  | succ u ih =>
    intro i ws h1 h2 h
    have ei := t_nI (n := i) (by omega)
    have eL := t_nI (n := L) (by omega)
    have e6 : (Int32.ofNat L - 6).toInt = (L : Int) - 6 := by
      have : (nI L - 6).toInt = (L : Int) - 6 := by rw [t_sub (by rw [tc6]; omega) (by rw [tc6]; omega), eL, tc6]
      exact this
    refine g_iload3 dL_law_18 (g_aload0 dL_law_19 (g_slen hsb dL_law_20 (g_bipush kb_6 dL_law_21 (g_isub dL_law_23 (g_icmp_gt (tgt := 1237) dL_law_24 (by decide) (fun _ => ?_) (fun hle => ?_))))))
    · exact g_iconst ki_1 dL_law_1237 (g_zret rfl (Or.inr rfl) dL_law_1238 (Nat.le_of_ble_eq_true rfl) (Nat.le_of_ble_eq_true rfl) rfl)
    · rw [e6, ei] at hle
      have hi6 : i + 6 ≤ L := by omega
      have at_ : ∀ k : Nat, k ≤ 5 → 0 ≤ (nI i + nI k).toInt ∧ (nI i + nI k).toInt < L := by
        intro k hk
        rw [nI_add, t_nI (by omega)]
        omega
      refine g_aload0 dL_law_27 (g_iload3 dL_law_28 (g_sld hsb dL_law_29 ⟨by omega, by omega⟩ (g_bipush kb_63 dL_law_30 (g_iand dL_law_32 ?_))))
      refine lw_case hE hsb ⟨at_ 1 (by omega), at_ 2 (by omega), at_ 3 (by omega), at_ 4 (by omega), at_ 5 (by omega)⟩ h _ (fun ws' h' => ?_)
      refine g_iinc3 ki_6 dL_law_1231 rfl rfl (g_goto (tgt := 18) dL_law_1234 (by decide) ?_)
      have e : nI i + 6 = nI (i + 6) := nI_add i 6
      rw [e]
      exact ih (i + 6) ws' (by omega) (by omega) h'
end S9w
