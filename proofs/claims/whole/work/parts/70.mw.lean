/-! the model: its object and its arrays, told by functions -/
def updA (f : Nat → Nat → Int32) (k : Nat) (g : Nat → Int32) : Nat → Nat → Int32 := fun j => if j = k then g else f j
def mF (b : Nat → Nat) (v : Nat → Int32) (t : Int64) : List Value := [.int (v 0), .ref (b 1), .ref (b 2), .int (v 3), .int (v 4), .ref (b 3), .int (v 6), .ref (b 4), .ref (b 5), .ref (b 6), .ref (b 7), .ref (b 8), .int (v 12), .ref (b 9), .ref (b 10), .int (v 15), .int (v 16), .int (v 17), .int (v 18), .int (v 19), .int (v 20), .int (v 21), .int (v 22), .int (v 23), .int (v 24), .int (v 25), .int (v 26), .long t, .int (v 28), .int (v 29), .int (v 30), .ref (b 11), .ref (b 12), .ref (b 13), .int (v 34), .ref (b 14), .ref (b 15), .int (v 37), .ref (b 16), .ref (b 17), .int (v 40), .int (v 41), .ref (b 18), .ref (b 19), .int (v 44), .int (v 45), .ref (b 20), .ref (b 21), .ref (b 22), .int (v 49), .int (v 50), .int (v 51), .ref (b 23), .ref (b 24), .ref (b 25), .ref (b 26)]
def mW (E : GE) (b : Nat → Nat) (v : Nat → Int32) (t : Int64) (f : Nat → Nat → Int32) : va_W := [(b 0, .inr (7, mF b v t)), (b 1, .inl (E.2.2.1 0, 960, .inl (f 1))), (b 2, .inl (E.2.2.1 0, 6, .inl (f 2))), (b 3, .inl (E.2.2.1 0, 160, .inl (f 5))), (b 4, .inl (E.2.2.1 0, 6, .inl (f 7))), (b 5, .inl (E.2.2.1 0, 6, .inl (f 8))), (b 6, .inl (E.2.2.1 0, 6, .inl (f 9))), (b 7, .inl (E.2.2.1 0, 6, .inl (f 10))), (b 8, .inl (E.2.2.1 0, 6, .inl (f 11))), (b 9, .inl (E.2.2.1 0, 40, .inl (f 13))), (b 10, .inl (E.2.2.1 0, 40, .inl (f 14))), (b 11, .inl (E.2.2.1 0, 40, .inl (f 31))), (b 12, .inl (E.2.2.1 0, 40, .inl (f 32))), (b 13, .inl (E.2.2.1 0, 40, .inl (f 33))), (b 14, .inl (E.2.2.1 0, 6, .inl (f 35))), (b 15, .inl (E.2.2.1 0, 6, .inl (f 36))), (b 16, .inl (E.2.2.1 0, 4, .inl (f 38))), (b 17, .inl (E.2.2.1 0, 4, .inl (f 39))), (b 18, .inl (E.2.2.1 0, 6, .inl (f 42))), (b 19, .inl (E.2.2.1 0, 6, .inl (f 43))), (b 20, .inl (E.2.2.1 0, 36, .inl (f 46))), (b 21, .inl (E.2.2.1 0, 24, .inl (f 47))), (b 22, .inl (E.2.2.1 0, 80, .inl (f 48))), (b 23, .inl (E.2.2.1 1, 4, .inl (f 52))), (b 24, .inl (E.2.2.1 0, 4, .inl (f 53))), (b 25, .inl (E.2.2.1 0, 4, .inl (f 54))), (b 26, .inl (E.2.2.1 0, 160, .inl (f 55)))]
section MW
variable {E : GE} {b : Nat → Nat} {v : Nat → Int32} {t : Int64} {f : Nat → Nat → Int32}
theorem mW_0 : (mW E b v t f)[0]? = some (b 0, .inr (7, mF b v t)) := rfl
theorem mW_0s {v2 : Nat → Int32} {t2 : Int64} : (mW E b v t f).set 0 (b 0, .inr (7, mF b v2 t2)) = mW E b v2 t2 f := rfl
theorem mg_0 : (mF b v t)[0]? = some (.int (v 0)) := rfl
theorem ms_0 {x : Int32} : (mF b v t).set 0 (.int x) = mF b (upd v 0 x) t := rfl
theorem mg_1 : (mF b v t)[1]? = some (.ref (b 1)) := rfl
theorem ma_1 : (mW E b v t f)[1]? = some (b 1, .inl (E.2.2.1 0, 960, .inl (f 1))) := rfl
theorem mas_1 {g : Nat → Int32} : (mW E b v t f).set 1 (b 1, .inl (E.2.2.1 0, 960, .inl g)) = mW E b v t (updA f 1 g) := rfl
theorem mg_2 : (mF b v t)[2]? = some (.ref (b 2)) := rfl
theorem ma_2 : (mW E b v t f)[2]? = some (b 2, .inl (E.2.2.1 0, 6, .inl (f 2))) := rfl
theorem mas_2 {g : Nat → Int32} : (mW E b v t f).set 2 (b 2, .inl (E.2.2.1 0, 6, .inl g)) = mW E b v t (updA f 2 g) := rfl
theorem mg_3 : (mF b v t)[3]? = some (.int (v 3)) := rfl
theorem ms_3 {x : Int32} : (mF b v t).set 3 (.int x) = mF b (upd v 3 x) t := rfl
theorem mg_4 : (mF b v t)[4]? = some (.int (v 4)) := rfl
theorem ms_4 {x : Int32} : (mF b v t).set 4 (.int x) = mF b (upd v 4 x) t := rfl
theorem mg_5 : (mF b v t)[5]? = some (.ref (b 3)) := rfl
theorem ma_5 : (mW E b v t f)[3]? = some (b 3, .inl (E.2.2.1 0, 160, .inl (f 5))) := rfl
theorem mas_5 {g : Nat → Int32} : (mW E b v t f).set 3 (b 3, .inl (E.2.2.1 0, 160, .inl g)) = mW E b v t (updA f 5 g) := rfl
theorem mg_6 : (mF b v t)[6]? = some (.int (v 6)) := rfl
theorem ms_6 {x : Int32} : (mF b v t).set 6 (.int x) = mF b (upd v 6 x) t := rfl
theorem mg_7 : (mF b v t)[7]? = some (.ref (b 4)) := rfl
theorem ma_7 : (mW E b v t f)[4]? = some (b 4, .inl (E.2.2.1 0, 6, .inl (f 7))) := rfl
theorem mas_7 {g : Nat → Int32} : (mW E b v t f).set 4 (b 4, .inl (E.2.2.1 0, 6, .inl g)) = mW E b v t (updA f 7 g) := rfl
theorem mg_8 : (mF b v t)[8]? = some (.ref (b 5)) := rfl
theorem ma_8 : (mW E b v t f)[5]? = some (b 5, .inl (E.2.2.1 0, 6, .inl (f 8))) := rfl
theorem mas_8 {g : Nat → Int32} : (mW E b v t f).set 5 (b 5, .inl (E.2.2.1 0, 6, .inl g)) = mW E b v t (updA f 8 g) := rfl
theorem mg_9 : (mF b v t)[9]? = some (.ref (b 6)) := rfl
theorem ma_9 : (mW E b v t f)[6]? = some (b 6, .inl (E.2.2.1 0, 6, .inl (f 9))) := rfl
theorem mas_9 {g : Nat → Int32} : (mW E b v t f).set 6 (b 6, .inl (E.2.2.1 0, 6, .inl g)) = mW E b v t (updA f 9 g) := rfl
theorem mg_10 : (mF b v t)[10]? = some (.ref (b 7)) := rfl
theorem ma_10 : (mW E b v t f)[7]? = some (b 7, .inl (E.2.2.1 0, 6, .inl (f 10))) := rfl
theorem mas_10 {g : Nat → Int32} : (mW E b v t f).set 7 (b 7, .inl (E.2.2.1 0, 6, .inl g)) = mW E b v t (updA f 10 g) := rfl
theorem mg_11 : (mF b v t)[11]? = some (.ref (b 8)) := rfl
theorem ma_11 : (mW E b v t f)[8]? = some (b 8, .inl (E.2.2.1 0, 6, .inl (f 11))) := rfl
theorem mas_11 {g : Nat → Int32} : (mW E b v t f).set 8 (b 8, .inl (E.2.2.1 0, 6, .inl g)) = mW E b v t (updA f 11 g) := rfl
theorem mg_12 : (mF b v t)[12]? = some (.int (v 12)) := rfl
theorem ms_12 {x : Int32} : (mF b v t).set 12 (.int x) = mF b (upd v 12 x) t := rfl
theorem mg_13 : (mF b v t)[13]? = some (.ref (b 9)) := rfl
theorem ma_13 : (mW E b v t f)[9]? = some (b 9, .inl (E.2.2.1 0, 40, .inl (f 13))) := rfl
theorem mas_13 {g : Nat → Int32} : (mW E b v t f).set 9 (b 9, .inl (E.2.2.1 0, 40, .inl g)) = mW E b v t (updA f 13 g) := rfl
theorem mg_14 : (mF b v t)[14]? = some (.ref (b 10)) := rfl
theorem ma_14 : (mW E b v t f)[10]? = some (b 10, .inl (E.2.2.1 0, 40, .inl (f 14))) := rfl
theorem mas_14 {g : Nat → Int32} : (mW E b v t f).set 10 (b 10, .inl (E.2.2.1 0, 40, .inl g)) = mW E b v t (updA f 14 g) := rfl
theorem mg_15 : (mF b v t)[15]? = some (.int (v 15)) := rfl
theorem ms_15 {x : Int32} : (mF b v t).set 15 (.int x) = mF b (upd v 15 x) t := rfl
theorem mg_16 : (mF b v t)[16]? = some (.int (v 16)) := rfl
theorem ms_16 {x : Int32} : (mF b v t).set 16 (.int x) = mF b (upd v 16 x) t := rfl
theorem mg_17 : (mF b v t)[17]? = some (.int (v 17)) := rfl
theorem ms_17 {x : Int32} : (mF b v t).set 17 (.int x) = mF b (upd v 17 x) t := rfl
theorem mg_18 : (mF b v t)[18]? = some (.int (v 18)) := rfl
theorem ms_18 {x : Int32} : (mF b v t).set 18 (.int x) = mF b (upd v 18 x) t := rfl
theorem mg_19 : (mF b v t)[19]? = some (.int (v 19)) := rfl
theorem ms_19 {x : Int32} : (mF b v t).set 19 (.int x) = mF b (upd v 19 x) t := rfl
theorem mg_20 : (mF b v t)[20]? = some (.int (v 20)) := rfl
theorem ms_20 {x : Int32} : (mF b v t).set 20 (.int x) = mF b (upd v 20 x) t := rfl
theorem mg_21 : (mF b v t)[21]? = some (.int (v 21)) := rfl
theorem ms_21 {x : Int32} : (mF b v t).set 21 (.int x) = mF b (upd v 21 x) t := rfl
theorem mg_22 : (mF b v t)[22]? = some (.int (v 22)) := rfl
theorem ms_22 {x : Int32} : (mF b v t).set 22 (.int x) = mF b (upd v 22 x) t := rfl
theorem mg_23 : (mF b v t)[23]? = some (.int (v 23)) := rfl
theorem ms_23 {x : Int32} : (mF b v t).set 23 (.int x) = mF b (upd v 23 x) t := rfl
theorem mg_24 : (mF b v t)[24]? = some (.int (v 24)) := rfl
theorem ms_24 {x : Int32} : (mF b v t).set 24 (.int x) = mF b (upd v 24 x) t := rfl
theorem mg_25 : (mF b v t)[25]? = some (.int (v 25)) := rfl
theorem ms_25 {x : Int32} : (mF b v t).set 25 (.int x) = mF b (upd v 25 x) t := rfl
theorem mg_26 : (mF b v t)[26]? = some (.int (v 26)) := rfl
theorem ms_26 {x : Int32} : (mF b v t).set 26 (.int x) = mF b (upd v 26 x) t := rfl
theorem mg_27 : (mF b v t)[27]? = some (.long t) := rfl
theorem ms_27 {x : Int64} : (mF b v t).set 27 (.long x) = mF b v x := rfl
theorem mg_28 : (mF b v t)[28]? = some (.int (v 28)) := rfl
theorem ms_28 {x : Int32} : (mF b v t).set 28 (.int x) = mF b (upd v 28 x) t := rfl
theorem mg_29 : (mF b v t)[29]? = some (.int (v 29)) := rfl
theorem ms_29 {x : Int32} : (mF b v t).set 29 (.int x) = mF b (upd v 29 x) t := rfl
theorem mg_30 : (mF b v t)[30]? = some (.int (v 30)) := rfl
theorem ms_30 {x : Int32} : (mF b v t).set 30 (.int x) = mF b (upd v 30 x) t := rfl
theorem mg_31 : (mF b v t)[31]? = some (.ref (b 11)) := rfl
theorem ma_31 : (mW E b v t f)[11]? = some (b 11, .inl (E.2.2.1 0, 40, .inl (f 31))) := rfl
theorem mas_31 {g : Nat → Int32} : (mW E b v t f).set 11 (b 11, .inl (E.2.2.1 0, 40, .inl g)) = mW E b v t (updA f 31 g) := rfl
theorem mg_32 : (mF b v t)[32]? = some (.ref (b 12)) := rfl
theorem ma_32 : (mW E b v t f)[12]? = some (b 12, .inl (E.2.2.1 0, 40, .inl (f 32))) := rfl
theorem mas_32 {g : Nat → Int32} : (mW E b v t f).set 12 (b 12, .inl (E.2.2.1 0, 40, .inl g)) = mW E b v t (updA f 32 g) := rfl
theorem mg_33 : (mF b v t)[33]? = some (.ref (b 13)) := rfl
theorem ma_33 : (mW E b v t f)[13]? = some (b 13, .inl (E.2.2.1 0, 40, .inl (f 33))) := rfl
theorem mas_33 {g : Nat → Int32} : (mW E b v t f).set 13 (b 13, .inl (E.2.2.1 0, 40, .inl g)) = mW E b v t (updA f 33 g) := rfl
theorem mg_34 : (mF b v t)[34]? = some (.int (v 34)) := rfl
theorem ms_34 {x : Int32} : (mF b v t).set 34 (.int x) = mF b (upd v 34 x) t := rfl
theorem mg_35 : (mF b v t)[35]? = some (.ref (b 14)) := rfl
theorem ma_35 : (mW E b v t f)[14]? = some (b 14, .inl (E.2.2.1 0, 6, .inl (f 35))) := rfl
theorem mas_35 {g : Nat → Int32} : (mW E b v t f).set 14 (b 14, .inl (E.2.2.1 0, 6, .inl g)) = mW E b v t (updA f 35 g) := rfl
theorem mg_36 : (mF b v t)[36]? = some (.ref (b 15)) := rfl
theorem ma_36 : (mW E b v t f)[15]? = some (b 15, .inl (E.2.2.1 0, 6, .inl (f 36))) := rfl
theorem mas_36 {g : Nat → Int32} : (mW E b v t f).set 15 (b 15, .inl (E.2.2.1 0, 6, .inl g)) = mW E b v t (updA f 36 g) := rfl
theorem mg_37 : (mF b v t)[37]? = some (.int (v 37)) := rfl
theorem ms_37 {x : Int32} : (mF b v t).set 37 (.int x) = mF b (upd v 37 x) t := rfl
theorem mg_38 : (mF b v t)[38]? = some (.ref (b 16)) := rfl
theorem ma_38 : (mW E b v t f)[16]? = some (b 16, .inl (E.2.2.1 0, 4, .inl (f 38))) := rfl
theorem mas_38 {g : Nat → Int32} : (mW E b v t f).set 16 (b 16, .inl (E.2.2.1 0, 4, .inl g)) = mW E b v t (updA f 38 g) := rfl
theorem mg_39 : (mF b v t)[39]? = some (.ref (b 17)) := rfl
theorem ma_39 : (mW E b v t f)[17]? = some (b 17, .inl (E.2.2.1 0, 4, .inl (f 39))) := rfl
theorem mas_39 {g : Nat → Int32} : (mW E b v t f).set 17 (b 17, .inl (E.2.2.1 0, 4, .inl g)) = mW E b v t (updA f 39 g) := rfl
theorem mg_40 : (mF b v t)[40]? = some (.int (v 40)) := rfl
theorem ms_40 {x : Int32} : (mF b v t).set 40 (.int x) = mF b (upd v 40 x) t := rfl
theorem mg_41 : (mF b v t)[41]? = some (.int (v 41)) := rfl
theorem ms_41 {x : Int32} : (mF b v t).set 41 (.int x) = mF b (upd v 41 x) t := rfl
theorem mg_42 : (mF b v t)[42]? = some (.ref (b 18)) := rfl
theorem ma_42 : (mW E b v t f)[18]? = some (b 18, .inl (E.2.2.1 0, 6, .inl (f 42))) := rfl
theorem mas_42 {g : Nat → Int32} : (mW E b v t f).set 18 (b 18, .inl (E.2.2.1 0, 6, .inl g)) = mW E b v t (updA f 42 g) := rfl
theorem mg_43 : (mF b v t)[43]? = some (.ref (b 19)) := rfl
theorem ma_43 : (mW E b v t f)[19]? = some (b 19, .inl (E.2.2.1 0, 6, .inl (f 43))) := rfl
theorem mas_43 {g : Nat → Int32} : (mW E b v t f).set 19 (b 19, .inl (E.2.2.1 0, 6, .inl g)) = mW E b v t (updA f 43 g) := rfl
theorem mg_44 : (mF b v t)[44]? = some (.int (v 44)) := rfl
theorem ms_44 {x : Int32} : (mF b v t).set 44 (.int x) = mF b (upd v 44 x) t := rfl
theorem mg_45 : (mF b v t)[45]? = some (.int (v 45)) := rfl
theorem ms_45 {x : Int32} : (mF b v t).set 45 (.int x) = mF b (upd v 45 x) t := rfl
theorem mg_46 : (mF b v t)[46]? = some (.ref (b 20)) := rfl
theorem ma_46 : (mW E b v t f)[20]? = some (b 20, .inl (E.2.2.1 0, 36, .inl (f 46))) := rfl
theorem mas_46 {g : Nat → Int32} : (mW E b v t f).set 20 (b 20, .inl (E.2.2.1 0, 36, .inl g)) = mW E b v t (updA f 46 g) := rfl
theorem mg_47 : (mF b v t)[47]? = some (.ref (b 21)) := rfl
theorem ma_47 : (mW E b v t f)[21]? = some (b 21, .inl (E.2.2.1 0, 24, .inl (f 47))) := rfl
theorem mas_47 {g : Nat → Int32} : (mW E b v t f).set 21 (b 21, .inl (E.2.2.1 0, 24, .inl g)) = mW E b v t (updA f 47 g) := rfl
theorem mg_48 : (mF b v t)[48]? = some (.ref (b 22)) := rfl
theorem ma_48 : (mW E b v t f)[22]? = some (b 22, .inl (E.2.2.1 0, 80, .inl (f 48))) := rfl
theorem mas_48 {g : Nat → Int32} : (mW E b v t f).set 22 (b 22, .inl (E.2.2.1 0, 80, .inl g)) = mW E b v t (updA f 48 g) := rfl
theorem mg_49 : (mF b v t)[49]? = some (.int (v 49)) := rfl
theorem ms_49 {x : Int32} : (mF b v t).set 49 (.int x) = mF b (upd v 49 x) t := rfl
theorem mg_50 : (mF b v t)[50]? = some (.int (v 50)) := rfl
theorem ms_50 {x : Int32} : (mF b v t).set 50 (.int x) = mF b (upd v 50 x) t := rfl
theorem mg_51 : (mF b v t)[51]? = some (.int (v 51)) := rfl
theorem ms_51 {x : Int32} : (mF b v t).set 51 (.int x) = mF b (upd v 51 x) t := rfl
theorem mg_52 : (mF b v t)[52]? = some (.ref (b 23)) := rfl
theorem ma_52 : (mW E b v t f)[23]? = some (b 23, .inl (E.2.2.1 1, 4, .inl (f 52))) := rfl
theorem mas_52 {g : Nat → Int32} : (mW E b v t f).set 23 (b 23, .inl (E.2.2.1 1, 4, .inl g)) = mW E b v t (updA f 52 g) := rfl
theorem mg_53 : (mF b v t)[53]? = some (.ref (b 24)) := rfl
theorem ma_53 : (mW E b v t f)[24]? = some (b 24, .inl (E.2.2.1 0, 4, .inl (f 53))) := rfl
theorem mas_53 {g : Nat → Int32} : (mW E b v t f).set 24 (b 24, .inl (E.2.2.1 0, 4, .inl g)) = mW E b v t (updA f 53 g) := rfl
theorem mg_54 : (mF b v t)[54]? = some (.ref (b 25)) := rfl
theorem ma_54 : (mW E b v t f)[25]? = some (b 25, .inl (E.2.2.1 0, 4, .inl (f 54))) := rfl
theorem mas_54 {g : Nat → Int32} : (mW E b v t f).set 25 (b 25, .inl (E.2.2.1 0, 4, .inl g)) = mW E b v t (updA f 54 g) := rfl
theorem mg_55 : (mF b v t)[55]? = some (.ref (b 26)) := rfl
theorem ma_55 : (mW E b v t f)[26]? = some (b 26, .inl (E.2.2.1 0, 160, .inl (f 55))) := rfl
theorem mas_55 {g : Nat → Int32} : (mW E b v t f).set 26 (b 26, .inl (E.2.2.1 0, 160, .inl g)) = mW E b v t (updA f 55 g) := rfl
theorem mF_len : (mF b v t).length = 56 := rfl
end MW
section GN
variable {E : GE} {M : GM} {d mc ms : Nat} {A : Nat → Prop} {Q : Option Value → va_W → Prop} {k n pc : Nat} {ls : List (Option Value)} {st : List Value} {b : Nat → Nat} {v : Nat → Int32} {t : Int64} {f : Nat → Nat → Int32}
theorem g_mget {idx kf : Nat} {x : Value} (hf : FL M.1.cls idx 7 kf) (hv : (mF b v t)[kf]? = some x) (hd : decode M.2.1 pc = .ok (.getfield idx, 3)) (kk : G E M d mc ms A Q k n (pc + 3) ls (x :: st) (mW E b v t f)) : G E M d mc ms A Q k n pc ls (.ref (b 0) :: st) (mW E b v t f) := g_get hf 0 mW_0 hv hd kk
theorem g_mput {idx kf : Nat} {x : Value} {v2 : Nat → Int32} {t2 : Int64} {ty : FieldType} (hf : FL M.1.cls idx 7 kf) (hp : FP 7 kf ty false) (hs : (mF b v t).set kf x = mF b v2 t2) (hn : narrow ty x = x) (hft : fits ty x = true) (hk : Nat.ble 56 kf = false) (hd : decode M.2.1 pc = .ok (.putfield idx, 3)) (kk : G E M d mc ms A Q k n (pc + 3) ls st (mW E b v2 t2 f)) : G E M d mc ms A Q k n pc ls (x :: .ref (b 0) :: st) (mW E b v t f) := by
  refine g_put hf hp 0 mW_0 hn hft ?_ hd ?_
  · rw [mF_len]
    have : ¬ 56 ≤ kf := fun h => by rw [Nat.ble_eq_true_of_le h] at hk; cases hk
    omega
  · rw [hs, mW_0s]; exact kk
theorem g_mia {q m kf : Nat} {i : Int32} (he : (mW E b v t f)[q]? = some (b q, .inl (E.2.2.1 0, m, .inl (f kf)))) (hd : decode M.2.1 pc = .ok (.iaload, 1)) (hi : 0 ≤ i.toInt ∧ i.toInt < m) (kk : G E M d mc ms A Q k n (pc + 1) ls (.int (f kf i.toInt.toNat) :: st) (mW E b v t f)) : G E M d mc ms A Q k n pc ls (.int i :: .ref (b q) :: st) (mW E b v t f) := g_iaload q he hd hi kk
theorem g_mba {q m kf : Nat} {i : Int32} (he : (mW E b v t f)[q]? = some (b q, .inl (E.2.2.1 1, m, .inl (f kf)))) (hd : decode M.2.1 pc = .ok (.baload, 1)) (hi : 0 ≤ i.toInt ∧ i.toInt < m) (kk : G E M d mc ms A Q k n (pc + 1) ls (.int (f kf i.toInt.toNat) :: st) (mW E b v t f)) : G E M d mc ms A Q k n pc ls (.int i :: .ref (b q) :: st) (mW E b v t f) := g_baload q he hd hi kk
theorem g_mis {q m kf : Nat} {i x : Int32} (he : (mW E b v t f)[q]? = some (b q, .inl (E.2.2.1 0, m, .inl (f kf)))) (hs : ∀ {g : Nat → Int32}, (mW E b v t f).set q (b q, .inl (E.2.2.1 0, m, .inl g)) = mW E b v t (updA f kf g)) (hd : decode M.2.1 pc = .ok (.iastore, 1)) (hi : 0 ≤ i.toInt ∧ i.toInt < m) (kk : G E M d mc ms A Q k n (pc + 1) ls st (mW E b v t (updA f kf (upd (f kf) i.toInt.toNat x)))) : G E M d mc ms A Q k n pc ls (.int x :: .int i :: .ref (b q) :: st) (mW E b v t f) := by
  refine g_iastore q he hd hi ?_
  rw [hs]; exact kk
end GN
