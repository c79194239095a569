theorem t_lo (a : Int32) : -2147483648 ≤ a.toInt := by have := a.le_toInt; simpa using this
theorem t_hi (a : Int32) : a.toInt < 2147483648 := by have := a.toInt_lt; simpa using this
theorem t_bm {z : Int} (h1 : -2147483648 ≤ z) (h2 : z < 2147483648) : z.bmod 4294967296 = z := Int.bmod_eq_of_le (by omega) (by omega)
theorem t_add {a b : Int32} (h1 : -2147483648 ≤ a.toInt + b.toInt) (h2 : a.toInt + b.toInt < 2147483648) : (a + b).toInt = a.toInt + b.toInt := by
  rw [Int32.toInt_add]; exact t_bm h1 h2
theorem t_sub {a b : Int32} (h1 : -2147483648 ≤ a.toInt - b.toInt) (h2 : a.toInt - b.toInt < 2147483648) : (a - b).toInt = a.toInt - b.toInt := by
  rw [Int32.toInt_sub]; exact t_bm h1 h2
theorem t_mul {a b : Int32} (h1 : -2147483648 ≤ a.toInt * b.toInt) (h2 : a.toInt * b.toInt < 2147483648) : (a * b).toInt = a.toInt * b.toInt := by
  rw [Int32.toInt_mul]; exact t_bm h1 h2
theorem t_neg {a : Int32} (h1 : -2147483648 < a.toInt) : (-a).toInt = -a.toInt := by
  have h2 := t_hi a
  rw [Int32.toInt_neg]; exact t_bm (by omega) (by omega)
theorem t_ext {a b : Int32} (h : a.toInt = b.toInt) : a = b := Int32.toInt_inj.mp h
theorem t_nI {n : Nat} (h : n < 2147483648) : (nI n).toInt = (n : Int) := nI_toInt (by omega)
theorem t_of {a : Int32} (h : 0 ≤ a.toInt) : a = nI a.toInt.toNat := t_ext (by rw [t_nI (by have := t_hi a; omega)]; omega)
theorem t_max (x y : Int32) : (if x < y then y else x).toInt = max x.toInt y.toInt := by
  by_cases h : x < y
  · rw [if_pos h]; have := Int32.lt_iff_toInt_lt.mp h; omega
  · rw [if_neg h]; have : ¬ x.toInt < y.toInt := fun q => h (Int32.lt_iff_toInt_lt.mpr q); omega
theorem t_min (x y : Int32) : (if y < x then y else x).toInt = min x.toInt y.toInt := by
  by_cases h : y < x
  · rw [if_pos h]; have := Int32.lt_iff_toInt_lt.mp h; omega
  · rw [if_neg h]; have : ¬ y.toInt < x.toInt := fun q => h (Int32.lt_iff_toInt_lt.mpr q); omega
theorem t_abs {x : Int32} (h : -2147483648 < x.toInt) : (if 0 ≤ x then x else 0 - x).toInt = (x.toInt.natAbs : Int) := by
  by_cases h0 : 0 ≤ x
  · rw [if_pos h0]; have := Int32.le_iff_toInt_le.mp h0; simp at this; omega
  · rw [if_neg h0]
    have h1 : ¬ 0 ≤ x.toInt := fun q => h0 (Int32.le_iff_toInt_le.mpr (by simpa using q))
    rw [t_sub (by simp; omega) (by simp; omega)]; simp; omega
/-- 1 or 0 -/
def g_bi (p : Prop) [Decidable p] : Int32 := if p then 1 else 0
theorem g_bi1 {p : Prop} [Decidable p] (h : p) : g_bi p = 1 := if_pos h
theorem g_bi0 {p : Prop} [Decidable p] (h : ¬ p) : g_bi p = 0 := if_neg h
theorem g_biz {p : Prop} [Decidable p] : (g_bi p).toInt = 0 ↔ ¬ p := by
  by_cases h : p <;> simp [g_bi, h]
theorem g_bi01 (p : Prop) [Decidable p] : g_bi p = 0 ∨ g_bi p = 1 := by
  by_cases h : p <;> simp [g_bi, h]
-- constants
theorem tc_m100000 : (-100000 : Int32).toInt = (-100000 : Int) := by decide
theorem tc_m100 : (-100 : Int32).toInt = (-100 : Int) := by decide
theorem tc_m99 : (-99 : Int32).toInt = (-99 : Int) := by decide
theorem tc_m14 : (-14 : Int32).toInt = (-14 : Int) := by decide
theorem tc_m13 : (-13 : Int32).toInt = (-13 : Int) := by decide
theorem tc_m12 : (-12 : Int32).toInt = (-12 : Int) := by decide
theorem tc_m11 : (-11 : Int32).toInt = (-11 : Int) := by decide
theorem tc_m4 : (-4 : Int32).toInt = (-4 : Int) := by decide
theorem tc_m3 : (-3 : Int32).toInt = (-3 : Int) := by decide
theorem tc_m2 : (-2 : Int32).toInt = (-2 : Int) := by decide
theorem tc_m1 : (-1 : Int32).toInt = (-1 : Int) := by decide
theorem tc_0 : (0 : Int32).toInt = (0 : Int) := by decide
theorem tc_1 : (1 : Int32).toInt = (1 : Int) := by decide
theorem tc_2 : (2 : Int32).toInt = (2 : Int) := by decide
theorem tc_3 : (3 : Int32).toInt = (3 : Int) := by decide
theorem tc_4 : (4 : Int32).toInt = (4 : Int) := by decide
theorem tc_5 : (5 : Int32).toInt = (5 : Int) := by decide
theorem tc_6 : (6 : Int32).toInt = (6 : Int) := by decide
theorem tc_7 : (7 : Int32).toInt = (7 : Int) := by decide
theorem tc_8 : (8 : Int32).toInt = (8 : Int) := by decide
theorem tc_9 : (9 : Int32).toInt = (9 : Int) := by decide
theorem tc_10 : (10 : Int32).toInt = (10 : Int) := by decide
theorem tc_11 : (11 : Int32).toInt = (11 : Int) := by decide
theorem tc_12 : (12 : Int32).toInt = (12 : Int) := by decide
theorem tc_13 : (13 : Int32).toInt = (13 : Int) := by decide
theorem tc_14 : (14 : Int32).toInt = (14 : Int) := by decide
theorem tc_15 : (15 : Int32).toInt = (15 : Int) := by decide
theorem tc_16 : (16 : Int32).toInt = (16 : Int) := by decide
theorem tc_17 : (17 : Int32).toInt = (17 : Int) := by decide
theorem tc_18 : (18 : Int32).toInt = (18 : Int) := by decide
theorem tc_19 : (19 : Int32).toInt = (19 : Int) := by decide
theorem tc_20 : (20 : Int32).toInt = (20 : Int) := by decide
theorem tc_21 : (21 : Int32).toInt = (21 : Int) := by decide
theorem tc_22 : (22 : Int32).toInt = (22 : Int) := by decide
theorem tc_23 : (23 : Int32).toInt = (23 : Int) := by decide
theorem tc_24 : (24 : Int32).toInt = (24 : Int) := by decide
theorem tc_32 : (32 : Int32).toInt = (32 : Int) := by decide
theorem tc_36 : (36 : Int32).toInt = (36 : Int) := by decide
theorem tc_40 : (40 : Int32).toInt = (40 : Int) := by decide
theorem tc_41 : (41 : Int32).toInt = (41 : Int) := by decide
theorem tc_42 : (42 : Int32).toInt = (42 : Int) := by decide
theorem tc_43 : (43 : Int32).toInt = (43 : Int) := by decide
theorem tc_45 : (45 : Int32).toInt = (45 : Int) := by decide
theorem tc_48 : (48 : Int32).toInt = (48 : Int) := by decide
theorem tc_49 : (49 : Int32).toInt = (49 : Int) := by decide
theorem tc_57 : (57 : Int32).toInt = (57 : Int) := by decide
theorem tc_59 : (59 : Int32).toInt = (59 : Int) := by decide
theorem tc_60 : (60 : Int32).toInt = (60 : Int) := by decide
theorem tc_61 : (61 : Int32).toInt = (61 : Int) := by decide
theorem tc_63 : (63 : Int32).toInt = (63 : Int) := by decide
theorem tc_64 : (64 : Int32).toInt = (64 : Int) := by decide
theorem tc_80 : (80 : Int32).toInt = (80 : Int) := by decide
theorem tc_97 : (97 : Int32).toInt = (97 : Int) := by decide
theorem tc_99 : (99 : Int32).toInt = (99 : Int) := by decide
theorem tc_100 : (100 : Int32).toInt = (100 : Int) := by decide
theorem tc_101 : (101 : Int32).toInt = (101 : Int) := by decide
theorem tc_104 : (104 : Int32).toInt = (104 : Int) := by decide
theorem tc_105 : (105 : Int32).toInt = (105 : Int) := by decide
theorem tc_109 : (109 : Int32).toInt = (109 : Int) := by decide
theorem tc_110 : (110 : Int32).toInt = (110 : Int) := by decide
theorem tc_111 : (111 : Int32).toInt = (111 : Int) := by decide
theorem tc_112 : (112 : Int32).toInt = (112 : Int) := by decide
theorem tc_114 : (114 : Int32).toInt = (114 : Int) := by decide
theorem tc_115 : (115 : Int32).toInt = (115 : Int) := by decide
theorem tc_116 : (116 : Int32).toInt = (116 : Int) := by decide
theorem tc_119 : (119 : Int32).toInt = (119 : Int) := by decide
theorem tc_121 : (121 : Int32).toInt = (121 : Int) := by decide
theorem tc_122 : (122 : Int32).toInt = (122 : Int) := by decide
theorem tc_160 : (160 : Int32).toInt = (160 : Int) := by decide
theorem tc_216 : (216 : Int32).toInt = (216 : Int) := by decide
theorem tc_255 : (255 : Int32).toInt = (255 : Int) := by decide
theorem tc_960 : (960 : Int32).toInt = (960 : Int) := by decide
theorem tc_1023 : (1023 : Int32).toInt = (1023 : Int) := by decide
theorem tc_12345 : (12345 : Int32).toInt = (12345 : Int) := by decide
theorem tc_55232 : (55232 : Int32).toInt = (55232 : Int) := by decide
theorem tc_56320 : (56320 : Int32).toInt = (56320 : Int) := by decide
theorem tc_65536 : (65536 : Int32).toInt = (65536 : Int) := by decide
theorem tc_252645135 : (252645135 : Int32).toInt = (252645135 : Int) := by decide
theorem tc_858993459 : (858993459 : Int32).toInt = (858993459 : Int) := by decide
theorem tc_1000000 : (1000000 : Int32).toInt = (1000000 : Int) := by decide
theorem tc_1103515245 : (1103515245 : Int32).toInt = (1103515245 : Int) := by decide
theorem tc_1431655765 : (1431655765 : Int32).toInt = (1431655765 : Int) := by decide
theorem tc_2147483647 : (2147483647 : Int32).toInt = (2147483647 : Int) := by decide
