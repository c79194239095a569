theorem mb_J0_coder_7d493 : MB mJ0_coder_7d493 0 := ⟨gw_at (i := 284) (by decide +kernel) rfl, gw_at (i := 84) (by decide +kernel) rfl, by decide, ⟨by decide, by decide⟩, by decide +kernel⟩
theorem mv_J0_335 : MV RJ0 335 mJ0_coder_7d493 0 := ⟨mb_J0_coder_7d493, gw_at (i := 281) (by decide +kernel) rfl, gw_at (i := 282) (by decide +kernel) rfl, gw_at (i := 283) (by decide +kernel) rfl⟩
theorem mb_J0_isLatin1_aae02 : MB mJ0_isLatin1_aae02 0 := ⟨gw_at (i := 294) (by decide +kernel) rfl, gw_at (i := 84) (by decide +kernel) rfl, by decide, ⟨by decide, by decide⟩, by decide +kernel⟩
theorem mv_J0_492 : MV RJ0 492 mJ0_isLatin1_aae02 0 := ⟨mb_J0_isLatin1_aae02, gw_at (i := 291) (by decide +kernel) rfl, gw_at (i := 292) (by decide +kernel) rfl, gw_at (i := 293) (by decide +kernel) rfl⟩
theorem mb_J1_charAt_3b067 : MB mJ1_charAt_3b067 2 := ⟨gw_at (i := 297) (by decide +kernel) rfl, gw_at (i := 85) (by decide +kernel) rfl, by decide, ⟨by decide, by decide⟩, by decide +kernel⟩
theorem mv_J0_495 : MS RJ0 495 mJ1_charAt_3b067 2 := ⟨mb_J1_charAt_3b067, gw_at (i := 295) (by decide +kernel) rfl, gw_at (i := 296) (by decide +kernel) rfl⟩
theorem mb_J2_charAt_3b067 : MB mJ2_charAt_3b067 2 := ⟨gw_at (i := 308) (by decide +kernel) rfl, gw_at (i := 87) (by decide +kernel) rfl, by decide, ⟨by decide, by decide⟩, by decide +kernel⟩
theorem mv_J0_498 : MS RJ0 498 mJ2_charAt_3b067 2 := ⟨mb_J2_charAt_3b067, gw_at (i := 306) (by decide +kernel) rfl, gw_at (i := 307) (by decide +kernel) rfl⟩
theorem mb_J0_indexOf_7cf53 : MB mJ0_indexOf_7cf53 2 := ⟨gw_at (i := 385) (by decide +kernel) rfl, gw_at (i := 84) (by decide +kernel) rfl, by decide, ⟨by decide, by decide⟩, by decide +kernel⟩
theorem mv_J0_633 : MV RJ0 633 mJ0_indexOf_7cf53 2 := ⟨mb_J0_indexOf_7cf53, gw_at (i := 382) (by decide +kernel) rfl, gw_at (i := 383) (by decide +kernel) rfl, gw_at (i := 384) (by decide +kernel) rfl⟩
theorem mv_J0_505 : MV RJ0 505 mJ0_length_8abf5 0 := ⟨mb_J0_length_8abf5, gw_at (i := 386) (by decide +kernel) rfl, gw_at (i := 278) (by decide +kernel) rfl, gw_at (i := 279) (by decide +kernel) rfl⟩
theorem mb_J1_indexOf_4cfef : MB mJ1_indexOf_4cfef 4 := ⟨gw_at (i := 389) (by decide +kernel) rfl, gw_at (i := 85) (by decide +kernel) rfl, by decide, ⟨by decide, by decide⟩, by decide +kernel⟩
theorem mv_J0_637 : MS RJ0 637 mJ1_indexOf_4cfef 4 := ⟨mb_J1_indexOf_4cfef, gw_at (i := 387) (by decide +kernel) rfl, gw_at (i := 388) (by decide +kernel) rfl⟩
theorem mb_J2_indexOf_4cfef : MB mJ2_indexOf_4cfef 4 := ⟨gw_at (i := 404) (by decide +kernel) rfl, gw_at (i := 87) (by decide +kernel) rfl, by decide, ⟨by decide, by decide⟩, by decide +kernel⟩
theorem mv_J0_640 : MS RJ0 640 mJ2_indexOf_4cfef 4 := ⟨mb_J2_indexOf_4cfef, gw_at (i := 402) (by decide +kernel) rfl, gw_at (i := 403) (by decide +kernel) rfl⟩
theorem mb_J3_checkIndex_8e157 : MB mJ3_checkIndex_8e157 3 := ⟨gw_at (i := 305) (by decide +kernel) rfl, gw_at (i := 86) (by decide +kernel) rfl, by decide, ⟨by decide, by decide⟩, by decide +kernel⟩
theorem mv_J0_1059 : MS RJ0 1059 mJ3_checkIndex_8e157 3 := ⟨mb_J3_checkIndex_8e157, gw_at (i := 303) (by decide +kernel) rfl, gw_at (i := 304) (by decide +kernel) rfl⟩
theorem mb_J3_checkFromToIndex_8c36e : MB mJ3_checkFromToIndex_8c36e 4 := ⟨gw_at (i := 419) (by decide +kernel) rfl, gw_at (i := 86) (by decide +kernel) rfl, by decide, ⟨by decide, by decide⟩, by decide +kernel⟩
theorem mv_J0_1062 : MS RJ0 1062 mJ3_checkFromToIndex_8c36e 4 := ⟨mb_J3_checkFromToIndex_8c36e, gw_at (i := 417) (by decide +kernel) rfl, gw_at (i := 418) (by decide +kernel) rfl⟩
theorem mb_J0_checkIndex_df160 : MB mJ0_checkIndex_df160 2 := ⟨gw_at (i := 300) (by decide +kernel) rfl, gw_at (i := 84) (by decide +kernel) rfl, by decide, ⟨by decide, by decide⟩, by decide +kernel⟩
theorem mv_J1_9 : MS RJ1 9 mJ0_checkIndex_df160 2 := ⟨mb_J0_checkIndex_df160, gw_at (i := 298) (by decide +kernel) rfl, gw_at (i := 299) (by decide +kernel) rfl⟩
theorem mb_J1_canEncode_9a6ad : MB mJ1_canEncode_9a6ad 1 := ⟨gw_at (i := 392) (by decide +kernel) rfl, gw_at (i := 85) (by decide +kernel) rfl, by decide, ⟨by decide, by decide⟩, by decide +kernel⟩
theorem mv_J1_88 : MS RJ1 88 mJ1_canEncode_9a6ad 1 := ⟨mb_J1_canEncode_9a6ad, gw_at (i := 390) (by decide +kernel) rfl, gw_at (i := 391) (by decide +kernel) rfl⟩
theorem mv_J1_92 : MS RJ1 92 mJ9_max_7cf53 2 := ⟨mb_J9_max_7cf53, gw_at (i := 393) (by decide +kernel) rfl, gw_at (i := 394) (by decide +kernel) rfl⟩
theorem mv_J1_38 : MS RJ1 38 mJ9_min_7cf53 2 := ⟨mb_J9_min_7cf53, gw_at (i := 396) (by decide +kernel) rfl, gw_at (i := 397) (by decide +kernel) rfl⟩
theorem mb_J1_indexOfChar_4cfef : MB mJ1_indexOfChar_4cfef 4 := ⟨gw_at (i := 401) (by decide +kernel) rfl, gw_at (i := 85) (by decide +kernel) rfl, by decide, ⟨by decide, by decide⟩, by decide +kernel⟩
theorem mv_J1_95 : MS RJ1 95 mJ1_indexOfChar_4cfef 4 := ⟨mb_J1_indexOfChar_4cfef, gw_at (i := 399) (by decide +kernel) rfl, gw_at (i := 400) (by decide +kernel) rfl⟩
theorem mb_J2_length_9d52b : MB mJ2_length_9d52b 1 := ⟨gw_at (i := 314) (by decide +kernel) rfl, gw_at (i := 87) (by decide +kernel) rfl, by decide, ⟨by decide, by decide⟩, by decide +kernel⟩
theorem mv_J2_48 : MS RJ2 48 mJ2_length_9d52b 1 := ⟨mb_J2_length_9d52b, gw_at (i := 312) (by decide +kernel) rfl, gw_at (i := 313) (by decide +kernel) rfl⟩
theorem mv_J2_224 : MS RJ2 224 mJ9_max_7cf53 2 := ⟨mb_J9_max_7cf53, gw_at (i := 405) (by decide +kernel) rfl, gw_at (i := 394) (by decide +kernel) rfl⟩
theorem mv_J2_183 : MS RJ2 183 mJ9_min_7cf53 2 := ⟨mb_J9_min_7cf53, gw_at (i := 406) (by decide +kernel) rfl, gw_at (i := 397) (by decide +kernel) rfl⟩
theorem mb_J2_indexOfChar_4cfef : MB mJ2_indexOfChar_4cfef 4 := ⟨gw_at (i := 410) (by decide +kernel) rfl, gw_at (i := 87) (by decide +kernel) rfl, by decide, ⟨by decide, by decide⟩, by decide +kernel⟩
theorem mv_J2_228 : MS RJ2 228 mJ2_indexOfChar_4cfef 4 := ⟨mb_J2_indexOfChar_4cfef, gw_at (i := 408) (by decide +kernel) rfl, gw_at (i := 409) (by decide +kernel) rfl⟩
theorem mb_J2_indexOfSupplementary_4cfef : MB mJ2_indexOfSupplementary_4cfef 4 := ⟨gw_at (i := 425) (by decide +kernel) rfl, gw_at (i := 87) (by decide +kernel) rfl, by decide, ⟨by decide, by decide⟩, by decide +kernel⟩
theorem mv_J2_232 : MS RJ2 232 mJ2_indexOfSupplementary_4cfef 4 := ⟨mb_J2_indexOfSupplementary_4cfef, gw_at (i := 423) (by decide +kernel) rfl, gw_at (i := 424) (by decide +kernel) rfl⟩
theorem mb_J2_checkBoundsBeginEnd_d044e : MB mJ2_checkBoundsBeginEnd_d044e 3 := ⟨gw_at (i := 413) (by decide +kernel) rfl, gw_at (i := 87) (by decide +kernel) rfl, by decide, ⟨by decide, by decide⟩, by decide +kernel⟩
theorem mv_J2_96 : MS RJ2 96 mJ2_checkBoundsBeginEnd_d044e 3 := ⟨mb_J2_checkBoundsBeginEnd_d044e, gw_at (i := 411) (by decide +kernel) rfl, gw_at (i := 412) (by decide +kernel) rfl⟩
theorem mb_J2_indexOfCharUnsafe_4cfef : MB mJ2_indexOfCharUnsafe_4cfef 4 := ⟨gw_at (i := 422) (by decide +kernel) rfl, gw_at (i := 87) (by decide +kernel) rfl, by decide, ⟨by decide, by decide⟩, by decide +kernel⟩
theorem mv_J2_244 : MS RJ2 244 mJ2_indexOfCharUnsafe_4cfef 4 := ⟨mb_J2_indexOfCharUnsafe_4cfef, gw_at (i := 420) (by decide +kernel) rfl, gw_at (i := 421) (by decide +kernel) rfl⟩
theorem mb_J2_getChar_3b067 : MB mJ2_getChar_3b067 2 := ⟨gw_at (i := 318) (by decide +kernel) rfl, gw_at (i := 87) (by decide +kernel) rfl, by decide, ⟨by decide, by decide⟩, by decide +kernel⟩
theorem mv_J2_71 : MS RJ2 71 mJ2_getChar_3b067 2 := ⟨mb_J2_getChar_3b067, gw_at (i := 316) (by decide +kernel) rfl, gw_at (i := 317) (by decide +kernel) rfl⟩
theorem mb_J11_isValidCodePoint_9a6ad : MB mJ11_isValidCodePoint_9a6ad 1 := ⟨gw_at (i := 428) (by decide +kernel) rfl, gw_at (i := 90) (by decide +kernel) rfl, by decide, ⟨by decide, by decide⟩, by decide +kernel⟩
theorem mv_J2_164 : MS RJ2 164 mJ11_isValidCodePoint_9a6ad 1 := ⟨mb_J11_isValidCodePoint_9a6ad, gw_at (i := 426) (by decide +kernel) rfl, gw_at (i := 427) (by decide +kernel) rfl⟩
theorem mb_J11_highSurrogate_5068e : MB mJ11_highSurrogate_5068e 1 := ⟨gw_at (i := 431) (by decide +kernel) rfl, gw_at (i := 90) (by decide +kernel) rfl, by decide, ⟨by decide, by decide⟩, by decide +kernel⟩
theorem mv_J2_157 : MS RJ2 157 mJ11_highSurrogate_5068e 1 := ⟨mb_J11_highSurrogate_5068e, gw_at (i := 429) (by decide +kernel) rfl, gw_at (i := 430) (by decide +kernel) rfl⟩
theorem mb_J11_lowSurrogate_5068e : MB mJ11_lowSurrogate_5068e 1 := ⟨gw_at (i := 435) (by decide +kernel) rfl, gw_at (i := 90) (by decide +kernel) rfl, by decide, ⟨by decide, by decide⟩, by decide +kernel⟩
theorem mv_J2_161 : MS RJ2 161 mJ11_lowSurrogate_5068e 1 := ⟨mb_J11_lowSurrogate_5068e, gw_at (i := 433) (by decide +kernel) rfl, gw_at (i := 434) (by decide +kernel) rfl⟩
theorem mb_J2_checkIndex_2214a : MB mJ2_checkIndex_2214a 2 := ⟨gw_at (i := 311) (by decide +kernel) rfl, gw_at (i := 87) (by decide +kernel) rfl, by decide, ⟨by decide, by decide⟩, by decide +kernel⟩
theorem mv_J2_67 : MS RJ2 67 mJ2_checkIndex_2214a 2 := ⟨mb_J2_checkIndex_2214a, gw_at (i := 309) (by decide +kernel) rfl, gw_at (i := 310) (by decide +kernel) rfl⟩
theorem mv_J2_414 : MS RJ2 414 mJ0_checkIndex_df160 2 := ⟨mb_J0_checkIndex_df160, gw_at (i := 315) (by decide +kernel) rfl, gw_at (i := 299) (by decide +kernel) rfl⟩
theorem mb_J0_checkBoundsBeginEnd_23922 : MB mJ0_checkBoundsBeginEnd_23922 3 := ⟨gw_at (i := 416) (by decide +kernel) rfl, gw_at (i := 84) (by decide +kernel) rfl, by decide, ⟨by decide, by decide⟩, by decide +kernel⟩
theorem mv_J2_241 : MS RJ2 241 mJ0_checkBoundsBeginEnd_23922 3 := ⟨mb_J0_checkBoundsBeginEnd_23922, gw_at (i := 414) (by decide +kernel) rfl, gw_at (i := 415) (by decide +kernel) rfl⟩
section G30b
variable {E : GE} {M : GM} {d mc ms : Nat} {A : Nat → Prop} {Q : Option Value → va_W → Prop} {k n pc : Nat} {st : List Value} {ws : va_W} {ls : List (Option Value)}
theorem g_S2v {M' : GM} {idx : Nat} {v1 v2 : Value} {Q0 : va_W → Prop} (hd : decode M.2.1 pc = .ok (.invokestatic idx, 3)) (hm : MS M.1.cls idx M' 2) (hr : Nat.ble (st.map fun v => v.category).sum 8 = true) (hk : k ≤ mc) (hk2 : n ≤ ms) (hC : g_Cv E M' d [v1, v2] ws Q0) (kk : ∀ (w : va_W), Q0 w → G E M (d + 1) mc ms A Q k n (pc + 3) ls st w) : G E M (d + 1) mc ms A Q k n pc ls (v2 :: v1 :: st) ws :=
  g_callS (As := [v1, v2]) (rest := st) hd hm rfl (Nat.le_of_ble_eq_true hr) hC hk hk2 (fun v w hq => by obtain ⟨rfl, hq⟩ := hq; exact kk w hq)
theorem g_S4i {M' : GM} {idx : Nat} {v1 v2 v3 v4 : Value} {Q0 : Int32 → va_W → Prop} (hd : decode M.2.1 pc = .ok (.invokestatic idx, 3)) (hm : MS M.1.cls idx M' 4) (hr : Nat.ble (st.map fun v => v.category).sum 8 = true) (hk : k ≤ mc) (hk2 : n ≤ ms) (hC : g_Ci E M' d [v1, v2, v3, v4] ws Q0) (kk : ∀ (r : Int32) (w : va_W), Q0 r w → G E M (d + 1) mc ms A Q k n (pc + 3) ls (.int r :: st) w) : G E M (d + 1) mc ms A Q k n pc ls (v4 :: v3 :: v2 :: v1 :: st) ws :=
  g_callS (As := [v1, v2, v3, v4]) (rest := st) hd hm rfl (Nat.le_of_ble_eq_true hr) hC hk hk2 (fun v w hq => by obtain ⟨r, rfl, hq⟩ := hq; exact kk r w hq)
end G30b
