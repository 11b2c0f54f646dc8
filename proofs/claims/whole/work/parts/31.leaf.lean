theorem ti_m99 : (-99 : Int32).toInt = -99 := by decide
theorem ti_m9 : (-9 : Int32).toInt = -9 := by decide
theorem ti_m4 : (-4 : Int32).toInt = -4 := by decide
theorem ti_m3 : (-3 : Int32).toInt = -3 := by decide
theorem ti_m2 : (-2 : Int32).toInt = -2 := by decide
theorem ti_m1 : (-1 : Int32).toInt = -1 := by decide
theorem ti_0 : (0 : Int32).toInt = 0 := by decide
theorem ti_1 : (1 : Int32).toInt = 1 := by decide
theorem ti_2 : (2 : Int32).toInt = 2 := by decide
theorem ti_3 : (3 : Int32).toInt = 3 := by decide
theorem ti_4 : (4 : Int32).toInt = 4 := by decide
theorem ti_5 : (5 : Int32).toInt = 5 := by decide
theorem ti_6 : (6 : Int32).toInt = 6 := by decide
theorem ti_7 : (7 : Int32).toInt = 7 := by decide
theorem ti_8 : (8 : Int32).toInt = 8 := by decide
theorem ti_9 : (9 : Int32).toInt = 9 := by decide
theorem ti_10 : (10 : Int32).toInt = 10 := by decide
theorem ti_11 : (11 : Int32).toInt = 11 := by decide
theorem ti_16 : (16 : Int32).toInt = 16 := by decide
theorem ti_20 : (20 : Int32).toInt = 20 := by decide
theorem ti_30 : (30 : Int32).toInt = 30 := by decide
theorem ti_32 : (32 : Int32).toInt = 32 := by decide
theorem ti_35 : (35 : Int32).toInt = 35 := by decide
theorem ti_40 : (40 : Int32).toInt = 40 := by decide
theorem ti_63 : (63 : Int32).toInt = 63 := by decide
theorem ti_64 : (64 : Int32).toInt = 64 := by decide
theorem ti_72 : (72 : Int32).toInt = 72 := by decide
theorem ti_76 : (76 : Int32).toInt = 76 := by decide
theorem ti_78 : (78 : Int32).toInt = 78 := by decide
theorem ti_82 : (82 : Int32).toInt = 82 := by decide
theorem ti_84 : (84 : Int32).toInt = 84 := by decide
theorem ti_99 : (99 : Int32).toInt = 99 := by decide
theorem ti_100 : (100 : Int32).toInt = 100 := by decide
theorem ti_111 : (111 : Int32).toInt = 111 := by decide
theorem ti_119 : (119 : Int32).toInt = 119 := by decide
theorem ti_125 : (125 : Int32).toInt = 125 := by decide
theorem ti_160 : (160 : Int32).toInt = 160 := by decide
theorem ti_200 : (200 : Int32).toInt = 200 := by decide
theorem ti_240 : (240 : Int32).toInt = 240 := by decide
theorem ti_256 : (256 : Int32).toInt = 256 := by decide
theorem ti_400 : (400 : Int32).toInt = 400 := by decide
theorem ti_999 : (999 : Int32).toInt = 999 := by decide
theorem ti_1000 : (1000 : Int32).toInt = 1000 := by decide
theorem ti_1024 : (1024 : Int32).toInt = 1024 := by decide
theorem tl_m99 : (-99 : Int64).toInt = -99 := by decide
theorem tl_m1 : (-1 : Int64).toInt = -1 := by decide
theorem tl_0 : (0 : Int64).toInt = 0 := by decide
theorem tl_1 : (1 : Int64).toInt = 1 := by decide
theorem tl_3 : (3 : Int64).toInt = 3 := by decide
theorem tl_4 : (4 : Int64).toInt = 4 := by decide
theorem tl_5 : (5 : Int64).toInt = 5 := by decide
theorem tl_6 : (6 : Int64).toInt = 6 := by decide
theorem tl_7 : (7 : Int64).toInt = 7 := by decide
theorem tl_9 : (9 : Int64).toInt = 9 := by decide
theorem tl_10 : (10 : Int64).toInt = 10 := by decide
theorem tl_17 : (17 : Int64).toInt = 17 := by decide
theorem tl_31 : (31 : Int64).toInt = 31 := by decide
theorem tl_40 : (40 : Int64).toInt = 40 := by decide
theorem tl_99 : (99 : Int64).toInt = 99 := by decide
theorem tl_999 : (999 : Int64).toInt = 999 := by decide
theorem tl_1023 : (1023 : Int64).toInt = 1023 := by decide
theorem lgc_lt (x y : Int64) : (lg_cmp x y < 0) = (x.toInt < y.toInt) := by
  unfold lg_cmp
  simp only [gt_iff_lt, Int64.lt_iff_toInt_lt, ← Int64.toInt_inj, eq_iff_iff]
  split
  · simp; omega
  · split
    · simp; omega
    · simp; omega
theorem lgc_gt (x y : Int64) : (0 < lg_cmp x y) = (y.toInt < x.toInt) := by
  unfold lg_cmp
  simp only [gt_iff_lt, Int64.lt_iff_toInt_lt, ← Int64.toInt_inj, eq_iff_iff]
  split
  · simp; omega
  · split
    · simp; omega
    · simp; omega
theorem i64 (x : Int32) : x.toInt64.toInt = x.toInt := by simp
/-! the class's small static methods -/
theorem c_isRow {V : mj_V} {h : mj_H} (r : Int32) : mj_ev V 84 0 [some (.int r)] [] h = some (some (.int (mj_b (0 ≤ r.toInt ∧ r.toInt < 6))), h) := by
  simp only [r84_0, r84_1, r84_4, r84_5, r84_7, r84_10, r84_11, r84_14, r84_15, Option.bind_some, Option.toList_some, Option.toList_none, List.cons_append, List.nil_append, mj_rfs, mj_rfn, if_true, if_false, not_true_eq_false, not_false_eq_true, true_or, or_true, mj_b_0, mj_b_1, mj_b_01, Decidable.not_not, Int32.lt_iff_toInt_lt, Int32.le_iff_toInt_le, ti_m99, ti_m9, ti_m4, ti_m3, ti_m2, ti_m1, ti_0, ti_1, ti_2, ti_3, ti_4, ti_5, ti_6, ti_7, ti_8, ti_9, ti_10, ti_11, ti_16, ti_20, ti_30, ti_32, ti_35, ti_40, ti_63, ti_64, ti_72, ti_76, ti_78, ti_82, ti_84, ti_99, ti_100, ti_111, ti_119, ti_125, ti_160, ti_200, ti_240, ti_256, ti_400, ti_999, ti_1000, ti_1024]
  unfold mj_b
  repeat' split
  all_goals first | rfl | (exfalso; omega)
theorem c_isText {V : mj_V} {h : mj_H} (r : Int32) : mj_ev V 85 0 [some (.int r)] [] h = some (some (.int (mj_b (0 ≤ r.toInt ∧ r.toInt < 4))), h) := by
  simp only [r85_0, r85_1, r85_4, r85_5, r85_6, r85_9, r85_10, r85_13, r85_14, Option.bind_some, Option.toList_some, Option.toList_none, List.cons_append, List.nil_append, mj_rfs, mj_rfn, if_true, if_false, not_true_eq_false, not_false_eq_true, true_or, or_true, mj_b_0, mj_b_1, mj_b_01, Decidable.not_not, Int32.lt_iff_toInt_lt, Int32.le_iff_toInt_le, ti_m99, ti_m9, ti_m4, ti_m3, ti_m2, ti_m1, ti_0, ti_1, ti_2, ti_3, ti_4, ti_5, ti_6, ti_7, ti_8, ti_9, ti_10, ti_11, ti_16, ti_20, ti_30, ti_32, ti_35, ti_40, ti_63, ti_64, ti_72, ti_76, ti_78, ti_82, ti_84, ti_99, ti_100, ti_111, ti_119, ti_125, ti_160, ti_200, ti_240, ti_256, ti_400, ti_999, ti_1000, ti_1024]
  unfold mj_b
  repeat' split
  all_goals first | rfl | (exfalso; omega)
theorem c_isMachine {V : mj_V} {h : mj_H} (r : Int32) : mj_ev V 86 0 [some (.int r)] [] h = some (some (.int (mj_b (0 ≤ r.toInt ∧ r.toInt < 4))), h) := by
  simp only [r86_0, r86_1, r86_4, r86_5, r86_6, r86_9, r86_10, r86_13, r86_14, Option.bind_some, Option.toList_some, Option.toList_none, List.cons_append, List.nil_append, mj_rfs, mj_rfn, if_true, if_false, not_true_eq_false, not_false_eq_true, true_or, or_true, mj_b_0, mj_b_1, mj_b_01, Decidable.not_not, Int32.lt_iff_toInt_lt, Int32.le_iff_toInt_le, ti_m99, ti_m9, ti_m4, ti_m3, ti_m2, ti_m1, ti_0, ti_1, ti_2, ti_3, ti_4, ti_5, ti_6, ti_7, ti_8, ti_9, ti_10, ti_11, ti_16, ti_20, ti_30, ti_32, ti_35, ti_40, ti_63, ti_64, ti_72, ti_76, ti_78, ti_82, ti_84, ti_99, ti_100, ti_111, ti_119, ti_125, ti_160, ti_200, ti_240, ti_256, ti_400, ti_999, ti_1000, ti_1024]
  unfold mj_b
  repeat' split
  all_goals first | rfl | (exfalso; omega)
theorem c_isFile {V : mj_V} {h : mj_H} (r : Int32) : mj_ev V 87 0 [some (.int r)] [] h = some (some (.int (mj_b (0 ≤ r.toInt ∧ r.toInt < 10))), h) := by
  simp only [r87_0, r87_1, r87_4, r87_5, r87_7, r87_10, r87_11, r87_14, r87_15, Option.bind_some, Option.toList_some, Option.toList_none, List.cons_append, List.nil_append, mj_rfs, mj_rfn, if_true, if_false, not_true_eq_false, not_false_eq_true, true_or, or_true, mj_b_0, mj_b_1, mj_b_01, Decidable.not_not, Int32.lt_iff_toInt_lt, Int32.le_iff_toInt_le, ti_m99, ti_m9, ti_m4, ti_m3, ti_m2, ti_m1, ti_0, ti_1, ti_2, ti_3, ti_4, ti_5, ti_6, ti_7, ti_8, ti_9, ti_10, ti_11, ti_16, ti_20, ti_30, ti_32, ti_35, ti_40, ti_63, ti_64, ti_72, ti_76, ti_78, ti_82, ti_84, ti_99, ti_100, ti_111, ti_119, ti_125, ti_160, ti_200, ti_240, ti_256, ti_400, ti_999, ti_1000, ti_1024]
  unfold mj_b
  repeat' split
  all_goals first | rfl | (exfalso; omega)
theorem c_isSet {V : mj_V} {h : mj_H} (r : Int32) : mj_ev V 88 0 [some (.int r)] [] h = some (some (.int (mj_b (0 ≤ r.toInt ∧ r.toInt < 1024))), h) := by
  simp only [r88_0, r88_1, r88_4, r88_5, r88_8, r88_11, r88_12, r88_15, r88_16, Option.bind_some, Option.toList_some, Option.toList_none, List.cons_append, List.nil_append, mj_rfs, mj_rfn, if_true, if_false, not_true_eq_false, not_false_eq_true, true_or, or_true, mj_b_0, mj_b_1, mj_b_01, Decidable.not_not, Int32.lt_iff_toInt_lt, Int32.le_iff_toInt_le, ti_m99, ti_m9, ti_m4, ti_m3, ti_m2, ti_m1, ti_0, ti_1, ti_2, ti_3, ti_4, ti_5, ti_6, ti_7, ti_8, ti_9, ti_10, ti_11, ti_16, ti_20, ti_30, ti_32, ti_35, ti_40, ti_63, ti_64, ti_72, ti_76, ti_78, ti_82, ti_84, ti_99, ti_100, ti_111, ti_119, ti_125, ti_160, ti_200, ti_240, ti_256, ti_400, ti_999, ti_1000, ti_1024]
  unfold mj_b
  repeat' split
  all_goals first | rfl | (exfalso; omega)
theorem c_isWhy {V : mj_V} {h : mj_H} (r : Int32) : mj_ev V 89 0 [some (.int r)] [] h = some (some (.int (mj_b (1 ≤ r.toInt ∧ r.toInt ≤ 6))), h) := by
  simp only [r89_0, r89_1, r89_2, r89_5, r89_6, r89_8, r89_11, r89_12, r89_15, r89_16, Option.bind_some, Option.toList_some, Option.toList_none, List.cons_append, List.nil_append, mj_rfs, mj_rfn, if_true, if_false, not_true_eq_false, not_false_eq_true, true_or, or_true, mj_b_0, mj_b_1, mj_b_01, Decidable.not_not, Int32.lt_iff_toInt_lt, Int32.le_iff_toInt_le, ti_m99, ti_m9, ti_m4, ti_m3, ti_m2, ti_m1, ti_0, ti_1, ti_2, ti_3, ti_4, ti_5, ti_6, ti_7, ti_8, ti_9, ti_10, ti_11, ti_16, ti_20, ti_30, ti_32, ti_35, ti_40, ti_63, ti_64, ti_72, ti_76, ti_78, ti_82, ti_84, ti_99, ti_100, ti_111, ti_119, ti_125, ti_160, ti_200, ti_240, ti_256, ti_400, ti_999, ti_1000, ti_1024]
  unfold mj_b
  repeat' split
  all_goals first | rfl | (exfalso; omega)
theorem c_isHarm {V : mj_V} {h : mj_H} (r : Int32) : mj_ev V 90 0 [some (.int r)] [] h = some (some (.int (mj_b (0 ≤ r.toInt ∧ r.toInt ≤ 3))), h) := by
  simp only [r90_0, r90_1, r90_4, r90_5, r90_6, r90_9, r90_10, r90_13, r90_14, Option.bind_some, Option.toList_some, Option.toList_none, List.cons_append, List.nil_append, mj_rfs, mj_rfn, if_true, if_false, not_true_eq_false, not_false_eq_true, true_or, or_true, mj_b_0, mj_b_1, mj_b_01, Decidable.not_not, Int32.lt_iff_toInt_lt, Int32.le_iff_toInt_le, ti_m99, ti_m9, ti_m4, ti_m3, ti_m2, ti_m1, ti_0, ti_1, ti_2, ti_3, ti_4, ti_5, ti_6, ti_7, ti_8, ti_9, ti_10, ti_11, ti_16, ti_20, ti_30, ti_32, ti_35, ti_40, ti_63, ti_64, ti_72, ti_76, ti_78, ti_82, ti_84, ti_99, ti_100, ti_111, ti_119, ti_125, ti_160, ti_200, ti_240, ti_256, ti_400, ti_999, ti_1000, ti_1024]
  unfold mj_b
  repeat' split
  all_goals first | rfl | (exfalso; omega)
theorem c_isWrites {V : mj_V} {h : mj_H} (r : Int32) : mj_ev V 91 0 [some (.int r)] [] h = some (some (.int (mj_b (1 ≤ r.toInt ∧ r.toInt ≤ 40))), h) := by
  simp only [r91_0, r91_1, r91_2, r91_5, r91_6, r91_8, r91_11, r91_12, r91_15, r91_16, Option.bind_some, Option.toList_some, Option.toList_none, List.cons_append, List.nil_append, mj_rfs, mj_rfn, if_true, if_false, not_true_eq_false, not_false_eq_true, true_or, or_true, mj_b_0, mj_b_1, mj_b_01, Decidable.not_not, Int32.lt_iff_toInt_lt, Int32.le_iff_toInt_le, ti_m99, ti_m9, ti_m4, ti_m3, ti_m2, ti_m1, ti_0, ti_1, ti_2, ti_3, ti_4, ti_5, ti_6, ti_7, ti_8, ti_9, ti_10, ti_11, ti_16, ti_20, ti_30, ti_32, ti_35, ti_40, ti_63, ti_64, ti_72, ti_76, ti_78, ti_82, ti_84, ti_99, ti_100, ti_111, ti_119, ti_125, ti_160, ti_200, ti_240, ti_256, ti_400, ti_999, ti_1000, ti_1024]
  unfold mj_b
  repeat' split
  all_goals first | rfl | (exfalso; omega)
theorem c_isHead {V : mj_V} {h : mj_H} (n d : Int32) : mj_ev V 92 0 [some (.int n), some (.int d)] [] h = some (some (.int (mj_b ((1 ≤ n.toInt ∧ n.toInt ≤ 99) ∧ 0 ≤ d.toInt ∧ d.toInt ≤ 999))), h) := by
  simp only [r92_0, r92_1, r92_2, r92_5, r92_6, r92_8, r92_11, r92_12, r92_15, r92_16, r92_19, r92_22, r92_23, r92_26, r92_27, Option.bind_some, Option.toList_some, Option.toList_none, List.cons_append, List.nil_append, mj_rfs, mj_rfn, if_true, if_false, not_true_eq_false, not_false_eq_true, true_or, or_true, mj_b_0, mj_b_1, mj_b_01, Decidable.not_not, Int32.lt_iff_toInt_lt, Int32.le_iff_toInt_le, ti_m99, ti_m9, ti_m4, ti_m3, ti_m2, ti_m1, ti_0, ti_1, ti_2, ti_3, ti_4, ti_5, ti_6, ti_7, ti_8, ti_9, ti_10, ti_11, ti_16, ti_20, ti_30, ti_32, ti_35, ti_40, ti_63, ti_64, ti_72, ti_76, ti_78, ti_82, ti_84, ti_99, ti_100, ti_111, ti_119, ti_125, ti_160, ti_200, ti_240, ti_256, ti_400, ti_999, ti_1000, ti_1024]
  unfold mj_b
  repeat' split
  all_goals first | rfl | (exfalso; omega)
theorem c_max {V : mj_V} {h : mj_H} (a b : Int32) : mj_ev V 216 0 [some (.int a), some (.int b)] [] h = some (some (.int (if a.toInt < b.toInt then b else a)), h) := by
  simp only [r216_0, r216_1, r216_2, r216_5, r216_6, r216_9, r216_10, Option.bind_some, Option.toList_some, Option.toList_none, List.cons_append, List.nil_append, mj_rfs, mj_rfn, if_true, if_false, not_true_eq_false, not_false_eq_true, true_or, or_true, mj_b_0, mj_b_1, mj_b_01, Decidable.not_not, Int32.lt_iff_toInt_lt, Int32.le_iff_toInt_le, ti_m99, ti_m9, ti_m4, ti_m3, ti_m2, ti_m1, ti_0, ti_1, ti_2, ti_3, ti_4, ti_5, ti_6, ti_7, ti_8, ti_9, ti_10, ti_11, ti_16, ti_20, ti_30, ti_32, ti_35, ti_40, ti_63, ti_64, ti_72, ti_76, ti_78, ti_82, ti_84, ti_99, ti_100, ti_111, ti_119, ti_125, ti_160, ti_200, ti_240, ti_256, ti_400, ti_999, ti_1000, ti_1024]
  split <;> rfl
theorem c_min {V : mj_V} {h : mj_H} (a b : Int32) : mj_ev V 217 0 [some (.int a), some (.int b)] [] h = some (some (.int (if b.toInt < a.toInt then b else a)), h) := by
  simp only [r217_0, r217_1, r217_2, r217_5, r217_6, r217_9, r217_10, Option.bind_some, Option.toList_some, Option.toList_none, List.cons_append, List.nil_append, mj_rfs, mj_rfn, if_true, if_false, not_true_eq_false, not_false_eq_true, true_or, or_true, mj_b_0, mj_b_1, mj_b_01, Decidable.not_not, Int32.lt_iff_toInt_lt, Int32.le_iff_toInt_le, ti_m99, ti_m9, ti_m4, ti_m3, ti_m2, ti_m1, ti_0, ti_1, ti_2, ti_3, ti_4, ti_5, ti_6, ti_7, ti_8, ti_9, ti_10, ti_11, ti_16, ti_20, ti_30, ti_32, ti_35, ti_40, ti_63, ti_64, ti_72, ti_76, ti_78, ti_82, ti_84, ti_99, ti_100, ti_111, ti_119, ti_125, ti_160, ti_200, ti_240, ti_256, ti_400, ti_999, ti_1000, ti_1024]
  split <;> rfl
/-! the model's -/
theorem d_in {V : mj_V} {h : mj_H} (v a b : Int64) : mj_ev V 134 0 [some (.long v), none, some (.long a), none, some (.long b), none] [] h = some (some (.int (mj_b (a.toInt ≤ v.toInt ∧ v.toInt ≤ b.toInt))), h) := by
  simp only [r134_0, r134_1, r134_2, r134_3, r134_6, r134_7, r134_9, r134_10, r134_13, r134_14, r134_17, r134_18, Option.bind_some, Option.toList_some, Option.toList_none, List.cons_append, List.nil_append, mj_rfs, mj_rfn, if_true, if_false, not_true_eq_false, not_false_eq_true, true_or, or_true, mj_b_0, mj_b_1, mj_b_01, Decidable.not_not, lgc_lt, lgc_gt]
  unfold mj_b
  repeat' split
  all_goals first | rfl | (exfalso; omega)
theorem d_isMade {V : mj_V} {h : mj_H} (n d : Int32) : mj_ev V 146 0 [some (.int n), some (.int d)] [] h = some (some (.int (mj_b ((1 ≤ n.toInt ∧ n.toInt ≤ 99) ∧ 0 ≤ d.toInt ∧ d.toInt ≤ 999))), h) := by
  simp only [r146_0, r146_1, r146_2, r146_3, r146_6, r146_9, r146_12, r146_13, r146_14, r146_15, r146_18, r146_21, r146_24, r146_25, r146_28, r146_29, Option.bind_some, Option.toList_some, Option.toList_none, List.cons_append, List.nil_append, mj_rfs, mj_rfn, if_true, if_false, not_true_eq_false, not_false_eq_true, true_or, or_true, mj_b_0, mj_b_1, mj_b_01, Decidable.not_not, d_in, i64, tl_m99, tl_m1, tl_0, tl_1, tl_3, tl_4, tl_5, tl_6, tl_7, tl_9, tl_10, tl_17, tl_31, tl_40, tl_99, tl_999, tl_1023]
  unfold mj_b
  repeat' split
  all_goals first | rfl | (exfalso; omega)
/-! rows -/
theorem c_Row_isThere {V : mj_V} {I : hq_I} {J : hq_J} {ks : List Nat} {q sl : Nat} {r : Nat} (hr : r < 6) : mj_ev V 28 0 [some (.ref (V.1 + (11 + 2 * r)))] [] (hp V I J ks q sl) = some (some (.int (mj_b (0 ≤ (I (11 + 2 * r) 21).toInt))), (hp V I J ks q sl)) := by
  simp only [r28_0, r28_1, r28_4, r28_7, r28_8, r28_11, r28_12, Option.bind_some, Option.toList_some, Option.toList_none, List.cons_append, List.nil_append, mj_rfs, mj_rfn, if_true, if_false, not_true_eq_false, not_false_eq_true, true_or, or_true, mj_b_0, mj_b_1, mj_b_01, Decidable.not_not, rw_size hr, Int32.lt_iff_toInt_lt, Int32.le_iff_toInt_le, ti_m99, ti_m9, ti_m4, ti_m3, ti_m2, ti_m1, ti_0, ti_1, ti_2, ti_3, ti_4, ti_5, ti_6, ti_7, ti_8, ti_9, ti_10, ti_11, ti_16, ti_20, ti_30, ti_32, ti_35, ti_40, ti_63, ti_64, ti_72, ti_76, ti_78, ti_82, ti_84, ti_99, ti_100, ti_111, ti_119, ti_125, ti_160, ti_200, ti_240, ti_256, ti_400, ti_999, ti_1000, ti_1024]
  unfold mj_b
  repeat' split
  all_goals first | rfl | (exfalso; omega)
theorem c_Row_has {V : mj_V} {I : hq_I} {J : hq_J} {ks : List Nat} {q sl : Nat} {r : Nat} (hr : r < 6) (i : Int32) : mj_ev V 29 0 [some (.ref (V.1 + (11 + 2 * r))), some (.int i)] [] (hp V I J ks q sl) = some (some (.int (mj_b (0 ≤ i.toInt ∧ i.toInt < (I (11 + 2 * r) 21).toInt))), (hp V I J ks q sl)) := by
  simp only [r29_0, r29_1, r29_4, r29_5, r29_6, r29_9, r29_12, r29_13, r29_16, r29_17, Option.bind_some, Option.toList_some, Option.toList_none, List.cons_append, List.nil_append, mj_rfs, mj_rfn, if_true, if_false, not_true_eq_false, not_false_eq_true, true_or, or_true, mj_b_0, mj_b_1, mj_b_01, Decidable.not_not, rw_size hr, Int32.lt_iff_toInt_lt, Int32.le_iff_toInt_le, ti_m99, ti_m9, ti_m4, ti_m3, ti_m2, ti_m1, ti_0, ti_1, ti_2, ti_3, ti_4, ti_5, ti_6, ti_7, ti_8, ti_9, ti_10, ti_11, ti_16, ti_20, ti_30, ti_32, ti_35, ti_40, ti_63, ti_64, ti_72, ti_76, ti_78, ti_82, ti_84, ti_99, ti_100, ti_111, ti_119, ti_125, ti_160, ti_200, ti_240, ti_256, ti_400, ti_999, ti_1000, ti_1024]
  unfold mj_b
  repeat' split
  all_goals first | rfl | (exfalso; omega)
theorem i32_sub {a b : Int32} (h : -2 ^ 31 ≤ a.toInt - b.toInt ∧ a.toInt - b.toInt < 2 ^ 31) : (a - b).toInt = a.toInt - b.toInt := by
  rw [Int32.toInt_sub]
  exact Int.bmod_eq_of_le (by omega) (by omega)
theorem i32_add {a b : Int32} (h : -2 ^ 31 ≤ a.toInt + b.toInt ∧ a.toInt + b.toInt < 2 ^ 31) : (a + b).toInt = a.toInt + b.toInt := by
  rw [Int32.toInt_add]
  exact Int.bmod_eq_of_le (by omega) (by omega)
theorem i32_lt (a : Int32) : -2 ^ 31 ≤ a.toInt ∧ a.toInt < 2 ^ 31 := ⟨Int32.le_toInt a, Int32.toInt_lt a⟩
theorem c_Row_hasRun {V : mj_V} {I : hq_I} {J : hq_J} {ks : List Nat} {q sl : Nat} {r : Nat} (hr : r < 6) (i n : Int32) (hs : -1 ≤ (I (11 + 2 * r) 21).toInt ∧ (I (11 + 2 * r) 21).toInt ≤ 40) : mj_ev V 30 0 [some (.ref (V.1 + (11 + 2 * r))), some (.int i), some (.int n)] [] (hp V I J ks q sl) = some (some (.int (mj_b (0 ≤ i.toInt ∧ 0 ≤ n.toInt ∧ i.toInt + n.toInt ≤ (I (11 + 2 * r) 21).toInt))), (hp V I J ks q sl)) := by
  simp only [r30_0, r30_1, r30_4, r30_5, r30_8, r30_9, r30_10, r30_13, r30_14, r30_15, r30_18, r30_19, r30_22, r30_23, Option.bind_some, Option.toList_some, Option.toList_none, List.cons_append, List.nil_append, mj_rfs, mj_rfn, if_true, if_false, not_true_eq_false, not_false_eq_true, true_or, or_true, mj_b_0, mj_b_1, mj_b_01, Decidable.not_not, rw_size hr, Int32.lt_iff_toInt_lt, Int32.le_iff_toInt_le, ti_m99, ti_m9, ti_m4, ti_m3, ti_m2, ti_m1, ti_0, ti_1, ti_2, ti_3, ti_4, ti_5, ti_6, ti_7, ti_8, ti_9, ti_10, ti_11, ti_16, ti_20, ti_30, ti_32, ti_35, ti_40, ti_63, ti_64, ti_72, ti_76, ti_78, ti_82, ti_84, ti_99, ti_100, ti_111, ti_119, ti_125, ti_160, ti_200, ti_240, ti_256, ti_400, ti_999, ti_1000, ti_1024]
  have h1 := i32_lt n
  by_cases hn : n.toInt < 0
  · unfold mj_b
    repeat' split
    all_goals first | rfl | (exfalso; omega)
  · rw [i32_sub (by omega)]
    unfold mj_b
    repeat' split
    all_goals first | rfl | (exfalso; omega)
theorem va_up_same {α : Type} (f : Nat → α) (k : Nat) : va_up f k (f k) = f := by
  funext j
  unfold va_up
  split
  · rename_i h; rw [h]
  · rfl
theorem va_up_up {α : Type} (f : Nat → α) (k : Nat) (v w : α) : va_up (va_up f k v) k w = va_up f k w := bx_uu f k v w
theorem l_Row_begin {V : mj_V} {J : hq_J} {ks : List Nat} {q sl r n : Nat} {a1 : Option Value} (hr : r < 6) (hn : n ≤ 40) : ∀ (d i : Nat) (I : hq_I), i + d = n → I (11 + 2 * r) 21 = nI n → mj_ev V 31 16 [some (.ref (V.1 + (11 + 2 * r))), a1, some (.int (nI i))] [] (hp V I J ks q sl) = some (none, hp V (va_up I (12 + 2 * r) (fun j => if i ≤ j ∧ j < n then 0 else I (12 + 2 * r) j)) J ks q sl)
  | 0, i, I, hi, hs => by
    simp only [r31_0, r31_1, r31_2, r31_4, r31_5, r31_8, r31_11, r31_14, r31_15, r31_16, r31_17, r31_18, r31_21, r31_24, r31_25, r31_28, r31_29, r31_30, r31_31, r31_34, r31_37, Option.bind_some, Option.toList_some, Option.toList_none, List.cons_append, List.nil_append, mj_rfs, mj_rfn, if_true, if_false, not_true_eq_false, not_false_eq_true, true_or, or_true, mj_b_0, mj_b_1, mj_b_01, Decidable.not_not, rw_size hr, hs, show nI n ≤ nI i from nI_le (by omega) (by omega)]
    have e : (fun j => if i ≤ j ∧ j < n then 0 else I (12 + 2 * r) j) = I (12 + 2 * r) := by
      funext j
      rw [if_neg (by omega)]
    rw [e, va_up_same]
  | d + 1, i, I, hi, hs => by
    rw [r31_16]
    simp only [r31_0, r31_1, r31_2, r31_4, r31_5, r31_8, r31_11, r31_14, r31_15, r31_17, r31_18, r31_21, r31_24, r31_25, r31_28, r31_29, r31_30, r31_31, r31_34, r31_37, Option.bind_some, Option.toList_some, Option.toList_none, List.cons_append, List.nil_append, mj_rfs, mj_rfn, if_true, if_false, not_true_eq_false, not_false_eq_true, true_or, or_true, mj_b_0, mj_b_1, mj_b_01, Decidable.not_not, rw_size hr, rw_places hr, hs, show ¬ nI n ≤ nI i from nI_ge (by omega) (by omega), rp_s hr rfl (show i < 40 by omega), nI_1]
    rw [l_Row_begin hr hn d (i + 1) _ (by omega) (by rw [va_up_ne _ _ (by omega)]; exact hs)]
    rw [va_up_up]
    congr 3
    apply congrArg
    funext j
    simp only [va_up_self, upd_a]
    by_cases h1 : j = i
    · subst h1
      rw [if_neg (by omega), if_pos rfl, if_pos (by omega)]
    · by_cases h2 : i + 1 ≤ j ∧ j < n
      · rw [if_pos h2, if_pos (by omega)]
      · rw [if_neg h2, if_neg h1, if_neg (by omega)]
theorem c_Row_begin {V : mj_V} {I : hq_I} {J : hq_J} {ks : List Nat} {q sl : Nat} {r n : Nat} (hr : r < 6) (hn : n ≤ 40) : mj_ev V 31 0 [some (.ref (V.1 + (11 + 2 * r))), some (.int (nI n)), none] [] (hp V I J ks q sl) = some (none, hp V (va_up (va_up I (11 + 2 * r) (upd (I (11 + 2 * r)) 21 (nI n))) (12 + 2 * r) (fun j => if j < n then 0 else I (12 + 2 * r) j)) J ks q sl) := by
  simp only [r31_0, r31_1, r31_2, r31_4, r31_5, r31_8, r31_11, r31_14, r31_15, r31_17, r31_18, r31_21, r31_24, r31_25, r31_28, r31_29, r31_30, r31_31, r31_34, r31_37, Option.bind_some, Option.toList_some, Option.toList_none, List.cons_append, List.nil_append, mj_rfs, mj_rfn, if_true, if_false, not_true_eq_false, not_false_eq_true, true_or, or_true, mj_b_0, mj_b_1, mj_b_01, Decidable.not_not, c_min, c_max, ti_m99, ti_m9, ti_m4, ti_m3, ti_m2, ti_m1, ti_0, ti_1, ti_2, ti_3, ti_4, ti_5, ti_6, ti_7, ti_8, ti_9, ti_10, ti_11, ti_16, ti_20, ti_30, ti_32, ti_35, ti_40, ti_63, ti_64, ti_72, ti_76, ti_78, ti_82, ti_84, ti_99, ti_100, ti_111, ti_119, ti_125, ti_160, ti_200, ti_240, ti_256, ti_400, ti_999, ti_1000, ti_1024, nI_t (show n < 2 ^ 31 by omega), show ¬ ((n : Int) < 0) by omega]
  have e1 : (if (n : Int) < 40 then nI n else 40) = nI n := by
    split
    · rfl
    · have : n = 40 := by omega
      subst this
      rfl
  have e2 : ∀ x : Int32, x = nI n → (if Int32.toInt 0 < x.toInt then x else 0) = nI n := by
    intro x hx
    rw [hx, nI_t (by omega), ti_0]
    split
    · rfl
    · have : n = 0 := by omega
      subst this
      rfl
  have e3 : (if (0 : Int) < (nI n).toInt then nI n else 0) = nI n := e2 (nI n) rfl
  rw [e1, e3, rw_size_s hr, Option.bind_some, show (0 : Int32) = nI 0 from rfl, l_Row_begin hr hn n 0 _ (by omega) (by rw [va_up_self]; exact pk_us)]
  congr 3
  apply congrArg
  funext j
  rw [va_up_ne _ _ (by omega)]
  by_cases h : j < n
  · rw [if_pos h, if_pos ⟨Nat.zero_le _, h⟩]
    rfl
  · rw [if_neg h, if_neg (by omega)]
theorem l_Row_all {V : mj_V} {I : hq_I} {J : hq_J} {ks : List Nat} {q sl : Nat} {r n : Nat} (lo hi : Int32) (hr : r < 6) (hn : n ≤ 40) (hs : I (11 + 2 * r) 21 = nI n) : ∀ (d i : Nat), i + d = n → mj_ev V 32 2 [some (.ref (V.1 + (11 + 2 * r))), some (.int lo), some (.int hi), some (.int (nI i))] [] (hp V I J ks q sl) = some (some (.int (mj_b (∀ j, j < n → i ≤ j → lo.toInt ≤ (I (12 + 2 * r) j).toInt ∧ (I (12 + 2 * r) j).toInt ≤ hi.toInt))), (hp V I J ks q sl))
  | 0, i, hi' => by
    simp only [r32_0, r32_1, r32_2, r32_3, r32_4, r32_7, r32_10, r32_11, r32_14, r32_15, r32_16, r32_17, r32_20, r32_21, r32_24, r32_25, r32_26, r32_27, r32_30, r32_31, r32_32, r32_35, r32_38, r32_39, Option.bind_some, Option.toList_some, Option.toList_none, List.cons_append, List.nil_append, mj_rfs, mj_rfn, if_true, if_false, not_true_eq_false, not_false_eq_true, true_or, or_true, mj_b_0, mj_b_1, mj_b_01, Decidable.not_not, rw_size hr, hs, show nI n ≤ nI i from nI_le (by omega) (by omega)]
    rw [mj_b_t (fun j h1 h2 => by omega)]
  | d + 1, i, hi' => by
    rw [r32_2]
    simp only [r32_0, r32_1, r32_3, r32_4, r32_7, r32_10, r32_11, r32_14, r32_15, r32_16, r32_17, r32_20, r32_21, r32_24, r32_25, r32_26, r32_27, r32_30, r32_31, r32_32, r32_35, r32_38, r32_39, Option.bind_some, Option.toList_some, Option.toList_none, List.cons_append, List.nil_append, mj_rfs, mj_rfn, if_true, if_false, not_true_eq_false, not_false_eq_true, true_or, or_true, mj_b_0, mj_b_1, mj_b_01, Decidable.not_not, rw_size hr, rw_places hr, hs, show ¬ nI n ≤ nI i from nI_ge (by omega) (by omega), rp_l hr rfl (show i < 40 by omega), nI_1, l_Row_all lo hi hr hn hs d (i + 1) (by omega), Int32.lt_iff_toInt_lt, Int32.le_iff_toInt_le]
    by_cases h1 : (I (12 + 2 * r) i).toInt < lo.toInt
    · rw [if_pos h1, mj_b_f (fun h => by have := h i (by omega) (by omega); omega)]
    · rw [if_neg h1]
      by_cases h2 : (I (12 + 2 * r) i).toInt ≤ hi.toInt
      · rw [if_pos h2]
        congr 4
        apply mj_b_c
        constructor
        · intro h j hj hij
          rcases Nat.eq_or_lt_of_le hij with rfl | hlt
          · exact ⟨by omega, h2⟩
          · exact h j hj hlt
        · intro h j hj hij
          exact h j hj (by omega)
      · rw [if_neg h2, mj_b_f (fun h => by have := h i (by omega) (by omega); omega)]
theorem c_Row_all {V : mj_V} {I : hq_I} {J : hq_J} {ks : List Nat} {q sl : Nat} {r n : Nat} (lo hi : Int32) (hr : r < 6) (hn : n ≤ 40) (hs : I (11 + 2 * r) 21 = nI n) : mj_ev V 32 0 [some (.ref (V.1 + (11 + 2 * r))), some (.int lo), some (.int hi), none] [] (hp V I J ks q sl) = some (some (.int (mj_b (∀ j, j < n → lo.toInt ≤ (I (12 + 2 * r) j).toInt ∧ (I (12 + 2 * r) j).toInt ≤ hi.toInt))), (hp V I J ks q sl)) := by
  rw [r32_0, r32_1, show (0 : Int32) = nI 0 from rfl, l_Row_all lo hi hr hn hs n 0 (by omega)]
  congr 4
  apply mj_b_c
  exact ⟨fun h j hj => h j hj (by omega), fun h j hj _ => h j hj⟩
/-! texts -/
theorem c_Text_isThere {V : mj_V} {I : hq_I} {J : hq_J} {ks : List Nat} {q sl : Nat} {r : Nat} (hr : r < 4) : mj_ev V 34 0 [some (.ref (V.1 + (23 + 2 * r)))] [] (hp V I J ks q sl) = some (some (.int (mj_b (0 ≤ (I (23 + 2 * r) 23).toInt))), (hp V I J ks q sl)) := by
  simp only [r34_0, r34_1, r34_4, r34_7, r34_8, r34_11, r34_12, Option.bind_some, Option.toList_some, Option.toList_none, List.cons_append, List.nil_append, mj_rfs, mj_rfn, if_true, if_false, not_true_eq_false, not_false_eq_true, true_or, or_true, mj_b_0, mj_b_1, mj_b_01, Decidable.not_not, tx_size hr, Int32.lt_iff_toInt_lt, Int32.le_iff_toInt_le, ti_m99, ti_m9, ti_m4, ti_m3, ti_m2, ti_m1, ti_0, ti_1, ti_2, ti_3, ti_4, ti_5, ti_6, ti_7, ti_8, ti_9, ti_10, ti_11, ti_16, ti_20, ti_30, ti_32, ti_35, ti_40, ti_63, ti_64, ti_72, ti_76, ti_78, ti_82, ti_84, ti_99, ti_100, ti_111, ti_119, ti_125, ti_160, ti_200, ti_240, ti_256, ti_400, ti_999, ti_1000, ti_1024]
  unfold mj_b
  repeat' split
  all_goals first | rfl | (exfalso; omega)
theorem c_Text_has {V : mj_V} {I : hq_I} {J : hq_J} {ks : List Nat} {q sl : Nat} {r : Nat} (hr : r < 4) (i : Int32) : mj_ev V 35 0 [some (.ref (V.1 + (23 + 2 * r))), some (.int i)] [] (hp V I J ks q sl) = some (some (.int (mj_b (0 ≤ i.toInt ∧ i.toInt < (I (23 + 2 * r) 23).toInt))), (hp V I J ks q sl)) := by
  simp only [r35_0, r35_1, r35_4, r35_5, r35_6, r35_9, r35_12, r35_13, r35_16, r35_17, Option.bind_some, Option.toList_some, Option.toList_none, List.cons_append, List.nil_append, mj_rfs, mj_rfn, if_true, if_false, not_true_eq_false, not_false_eq_true, true_or, or_true, mj_b_0, mj_b_1, mj_b_01, Decidable.not_not, tx_size hr, Int32.lt_iff_toInt_lt, Int32.le_iff_toInt_le, ti_m99, ti_m9, ti_m4, ti_m3, ti_m2, ti_m1, ti_0, ti_1, ti_2, ti_3, ti_4, ti_5, ti_6, ti_7, ti_8, ti_9, ti_10, ti_11, ti_16, ti_20, ti_30, ti_32, ti_35, ti_40, ti_63, ti_64, ti_72, ti_76, ti_78, ti_82, ti_84, ti_99, ti_100, ti_111, ti_119, ti_125, ti_160, ti_200, ti_240, ti_256, ti_400, ti_999, ti_1000, ti_1024]
  unfold mj_b
  repeat' split
  all_goals first | rfl | (exfalso; omega)
theorem l_Text_begin {V : mj_V} {J : hq_J} {ks : List Nat} {q sl r n : Nat} {a1 : Option Value} (hr : r < 4) (hn : n ≤ 40) : ∀ (d i : Nat) (I : hq_I), i + d = n → I (23 + 2 * r) 23 = nI n → mj_ev V 36 16 [some (.ref (V.1 + (23 + 2 * r))), a1, some (.int (nI i))] [] (hp V I J ks q sl) = some (none, hp V (va_up I (24 + 2 * r) (fun j => if i ≤ j ∧ j < n then 32 else I (24 + 2 * r) j)) J ks q sl)
  | 0, i, I, hi, hs => by
    simp only [r36_0, r36_1, r36_2, r36_4, r36_5, r36_8, r36_11, r36_14, r36_15, r36_16, r36_17, r36_18, r36_21, r36_24, r36_25, r36_28, r36_29, r36_31, r36_32, r36_35, r36_38, Option.bind_some, Option.toList_some, Option.toList_none, List.cons_append, List.nil_append, mj_rfs, mj_rfn, if_true, if_false, not_true_eq_false, not_false_eq_true, true_or, or_true, mj_b_0, mj_b_1, mj_b_01, Decidable.not_not, tx_size hr, hs, show nI n ≤ nI i from nI_le (by omega) (by omega)]
    have e : (fun j => if i ≤ j ∧ j < n then 32 else I (24 + 2 * r) j) = I (24 + 2 * r) := by
      funext j
      rw [if_neg (by omega)]
    rw [e, va_up_same]
  | d + 1, i, I, hi, hs => by
    rw [r36_16]
    simp only [r36_0, r36_1, r36_2, r36_4, r36_5, r36_8, r36_11, r36_14, r36_15, r36_17, r36_18, r36_21, r36_24, r36_25, r36_28, r36_29, r36_31, r36_32, r36_35, r36_38, Option.bind_some, Option.toList_some, Option.toList_none, List.cons_append, List.nil_append, mj_rfs, mj_rfn, if_true, if_false, not_true_eq_false, not_false_eq_true, true_or, or_true, mj_b_0, mj_b_1, mj_b_01, Decidable.not_not, tx_size hr, tx_bytes hr, hs, show ¬ nI n ≤ nI i from nI_ge (by omega) (by omega), tb_s hr rfl (show i < 40 by omega), nI_1]
    rw [l_Text_begin hr hn d (i + 1) _ (by omega) (by rw [va_up_ne _ _ (by omega)]; exact hs)]
    rw [va_up_up]
    congr 3
    apply congrArg
    funext j
    simp only [va_up_self, upd_a]
    by_cases h1 : j = i
    · subst h1
      rw [if_neg (by omega), if_pos rfl, if_pos (by omega)]
      rfl
    · by_cases h2 : i + 1 ≤ j ∧ j < n
      · rw [if_pos h2, if_pos (by omega)]
      · rw [if_neg h2, if_neg h1, if_neg (by omega)]
theorem c_Text_begin {V : mj_V} {I : hq_I} {J : hq_J} {ks : List Nat} {q sl : Nat} {r n : Nat} (hr : r < 4) (hn : n ≤ 40) : mj_ev V 36 0 [some (.ref (V.1 + (23 + 2 * r))), some (.int (nI n)), none] [] (hp V I J ks q sl) = some (none, hp V (va_up (va_up I (23 + 2 * r) (upd (I (23 + 2 * r)) 23 (nI n))) (24 + 2 * r) (fun j => if j < n then 32 else I (24 + 2 * r) j)) J ks q sl) := by
  simp only [r36_0, r36_1, r36_2, r36_4, r36_5, r36_8, r36_11, r36_14, r36_15, r36_17, r36_18, r36_21, r36_24, r36_25, r36_28, r36_29, r36_31, r36_32, r36_35, r36_38, Option.bind_some, Option.toList_some, Option.toList_none, List.cons_append, List.nil_append, mj_rfs, mj_rfn, if_true, if_false, not_true_eq_false, not_false_eq_true, true_or, or_true, mj_b_0, mj_b_1, mj_b_01, Decidable.not_not, c_min, c_max, ti_m99, ti_m9, ti_m4, ti_m3, ti_m2, ti_m1, ti_0, ti_1, ti_2, ti_3, ti_4, ti_5, ti_6, ti_7, ti_8, ti_9, ti_10, ti_11, ti_16, ti_20, ti_30, ti_32, ti_35, ti_40, ti_63, ti_64, ti_72, ti_76, ti_78, ti_82, ti_84, ti_99, ti_100, ti_111, ti_119, ti_125, ti_160, ti_200, ti_240, ti_256, ti_400, ti_999, ti_1000, ti_1024, nI_t (show n < 2 ^ 31 by omega), show ¬ ((n : Int) < 0) by omega]
  have e1 : (if (n : Int) < 40 then nI n else 40) = nI n := by
    split
    · rfl
    · have : n = 40 := by omega
      subst this
      rfl
  have e3 : (if (0 : Int) < (nI n).toInt then nI n else 0) = nI n := by
    rw [nI_t (by omega)]
    split
    · rfl
    · have : n = 0 := by omega
      subst this
      rfl
  rw [e1, e3, tx_size_s hr, Option.bind_some, show (0 : Int32) = nI 0 from rfl, l_Text_begin hr hn n 0 _ (by omega) (by rw [va_up_self]; exact pk_us)]
  congr 3
  apply congrArg
  funext j
  rw [va_up_ne _ _ (by omega)]
  by_cases h : j < n
  · rw [if_pos h, if_pos ⟨Nat.zero_le _, h⟩]
  · rw [if_neg h, if_neg (by omega)]
/-! findings -/
def cF (I : hq_I) (k : Nat) : hq_I := va_up (va_up I 0 (upd (I 0) 37 (nI k))) 6 (upd (I 6) k (I 6 k + 1))
def dF (I : hq_I) (k : Nat) : hq_I := va_up (va_up I 51 (upd (I 51) 70 (nI k))) 76 (upd (I 76) k (I 76 k + 1))
theorem c_found1 {V : mj_V} {I : hq_I} {J : hq_J} {ks : List Nat} {q sl : Nat} : mj_ev V 94 0 [some (.ref (V.1 + 0)), some (.int 1)] [] (hp V I J ks q sl) = some (some (.int (-3)), hp V (cF I 1) J ks q sl) := by
  simp only [r94_0, r94_1, r94_2, r94_5, r94_6, r94_9, r94_10, r94_11, r94_14, r94_15, r94_18, r94_19, r94_22, r94_23, r94_24, r94_25, r94_26, r94_27, r94_28, r94_30, Option.bind_some, Option.toList_some, Option.toList_none, List.cons_append, List.nil_append, mj_rfs, mj_rfn, if_true, if_false, not_true_eq_false, not_false_eq_true, true_or, or_true, mj_b_0, mj_b_1, mj_b_01, Decidable.not_not, c0_cls, c0_rows, c0_texts, c0_pages, c0_machines, c0_refusals, c0_findingTimes, c0_triedPlan, c0_triedHeld, c0_made, c0_pageCount, c0_day, c0_latestFinding, c0_latestAsked, c0_latestUpper, c0_latestLower, c0_latestFinding_s, a6_n, show ¬ ((1 : Int32) < 0) by decide, show ¬ (Int32.ofNat 6 ≤ (1 : Int32)) by decide, a6_l (show (1 : Int32) = nI 1 from rfl) (by omega), a6_s (show (1 : Int32) = nI 1 from rfl) (by omega)]
  rfl
theorem d_find1 {V : mj_V} {I : hq_I} {J : hq_J} {ks : List Nat} {q sl : Nat} : mj_ev V 135 0 [some (.ref (V.1 + 51)), some (.int 1)] [] (hp V I J ks q sl) = some (some (.int (-3)), hp V (dF I 1) J ks q sl) := by
  simp only [r135_0, r135_1, r135_2, r135_5, r135_6, r135_9, r135_10, r135_11, r135_12, r135_13, r135_14, r135_15, r135_17, Option.bind_some, Option.toList_some, Option.toList_none, List.cons_append, List.nil_append, mj_rfs, mj_rfn, if_true, if_false, not_true_eq_false, not_false_eq_true, true_or, or_true, mj_b_0, mj_b_1, mj_b_01, Decidable.not_not, m51_cls, m51_places, m51_rowSize, m51_bytes, m51_textSize, m51_today, m51_pages, m51_kind, m51_number, m51_till, m51_signed, m51_keys, m51_many, m51_sums, m51_lends, m51_names, m51_alsoNames, m51_has, m51_isThere, m51_order, m51_steps, m51_looksAtNumbers, m51_looksAtDays, m51_hasTwo, m51_took, m51_runs, m51_refusals, m51_asked, m51_upper, m51_lower, m51_finding, m51_findings, m51_letters, m51_lettersMany, m51_looks, m51_copies, m51_kept, m51_four, m51_h, m51_finding_s, a76_l (show (1 : Int32) = nI 1 from rfl) (by omega), a76_s (show (1 : Int32) = nI 1 from rfl) (by omega)]
  rfl
theorem c_found2 {V : mj_V} {I : hq_I} {J : hq_J} {ks : List Nat} {q sl : Nat} : mj_ev V 94 0 [some (.ref (V.1 + 0)), some (.int 2)] [] (hp V I J ks q sl) = some (some (.int (-3)), hp V (cF I 2) J ks q sl) := by
  simp only [r94_0, r94_1, r94_2, r94_5, r94_6, r94_9, r94_10, r94_11, r94_14, r94_15, r94_18, r94_19, r94_22, r94_23, r94_24, r94_25, r94_26, r94_27, r94_28, r94_30, Option.bind_some, Option.toList_some, Option.toList_none, List.cons_append, List.nil_append, mj_rfs, mj_rfn, if_true, if_false, not_true_eq_false, not_false_eq_true, true_or, or_true, mj_b_0, mj_b_1, mj_b_01, Decidable.not_not, c0_cls, c0_rows, c0_texts, c0_pages, c0_machines, c0_refusals, c0_findingTimes, c0_triedPlan, c0_triedHeld, c0_made, c0_pageCount, c0_day, c0_latestFinding, c0_latestAsked, c0_latestUpper, c0_latestLower, c0_latestFinding_s, a6_n, show ¬ ((2 : Int32) < 0) by decide, show ¬ (Int32.ofNat 6 ≤ (2 : Int32)) by decide, a6_l (show (2 : Int32) = nI 2 from rfl) (by omega), a6_s (show (2 : Int32) = nI 2 from rfl) (by omega)]
  rfl
theorem d_find2 {V : mj_V} {I : hq_I} {J : hq_J} {ks : List Nat} {q sl : Nat} : mj_ev V 135 0 [some (.ref (V.1 + 51)), some (.int 2)] [] (hp V I J ks q sl) = some (some (.int (-3)), hp V (dF I 2) J ks q sl) := by
  simp only [r135_0, r135_1, r135_2, r135_5, r135_6, r135_9, r135_10, r135_11, r135_12, r135_13, r135_14, r135_15, r135_17, Option.bind_some, Option.toList_some, Option.toList_none, List.cons_append, List.nil_append, mj_rfs, mj_rfn, if_true, if_false, not_true_eq_false, not_false_eq_true, true_or, or_true, mj_b_0, mj_b_1, mj_b_01, Decidable.not_not, m51_cls, m51_places, m51_rowSize, m51_bytes, m51_textSize, m51_today, m51_pages, m51_kind, m51_number, m51_till, m51_signed, m51_keys, m51_many, m51_sums, m51_lends, m51_names, m51_alsoNames, m51_has, m51_isThere, m51_order, m51_steps, m51_looksAtNumbers, m51_looksAtDays, m51_hasTwo, m51_took, m51_runs, m51_refusals, m51_asked, m51_upper, m51_lower, m51_finding, m51_findings, m51_letters, m51_lettersMany, m51_looks, m51_copies, m51_kept, m51_four, m51_h, m51_finding_s, a76_l (show (2 : Int32) = nI 2 from rfl) (by omega), a76_s (show (2 : Int32) = nI 2 from rfl) (by omega)]
  rfl
theorem c_found3 {V : mj_V} {I : hq_I} {J : hq_J} {ks : List Nat} {q sl : Nat} : mj_ev V 94 0 [some (.ref (V.1 + 0)), some (.int 3)] [] (hp V I J ks q sl) = some (some (.int (-3)), hp V (cF I 3) J ks q sl) := by
  simp only [r94_0, r94_1, r94_2, r94_5, r94_6, r94_9, r94_10, r94_11, r94_14, r94_15, r94_18, r94_19, r94_22, r94_23, r94_24, r94_25, r94_26, r94_27, r94_28, r94_30, Option.bind_some, Option.toList_some, Option.toList_none, List.cons_append, List.nil_append, mj_rfs, mj_rfn, if_true, if_false, not_true_eq_false, not_false_eq_true, true_or, or_true, mj_b_0, mj_b_1, mj_b_01, Decidable.not_not, c0_cls, c0_rows, c0_texts, c0_pages, c0_machines, c0_refusals, c0_findingTimes, c0_triedPlan, c0_triedHeld, c0_made, c0_pageCount, c0_day, c0_latestFinding, c0_latestAsked, c0_latestUpper, c0_latestLower, c0_latestFinding_s, a6_n, show ¬ ((3 : Int32) < 0) by decide, show ¬ (Int32.ofNat 6 ≤ (3 : Int32)) by decide, a6_l (show (3 : Int32) = nI 3 from rfl) (by omega), a6_s (show (3 : Int32) = nI 3 from rfl) (by omega)]
  rfl
theorem d_find3 {V : mj_V} {I : hq_I} {J : hq_J} {ks : List Nat} {q sl : Nat} : mj_ev V 135 0 [some (.ref (V.1 + 51)), some (.int 3)] [] (hp V I J ks q sl) = some (some (.int (-3)), hp V (dF I 3) J ks q sl) := by
  simp only [r135_0, r135_1, r135_2, r135_5, r135_6, r135_9, r135_10, r135_11, r135_12, r135_13, r135_14, r135_15, r135_17, Option.bind_some, Option.toList_some, Option.toList_none, List.cons_append, List.nil_append, mj_rfs, mj_rfn, if_true, if_false, not_true_eq_false, not_false_eq_true, true_or, or_true, mj_b_0, mj_b_1, mj_b_01, Decidable.not_not, m51_cls, m51_places, m51_rowSize, m51_bytes, m51_textSize, m51_today, m51_pages, m51_kind, m51_number, m51_till, m51_signed, m51_keys, m51_many, m51_sums, m51_lends, m51_names, m51_alsoNames, m51_has, m51_isThere, m51_order, m51_steps, m51_looksAtNumbers, m51_looksAtDays, m51_hasTwo, m51_took, m51_runs, m51_refusals, m51_asked, m51_upper, m51_lower, m51_finding, m51_findings, m51_letters, m51_lettersMany, m51_looks, m51_copies, m51_kept, m51_four, m51_h, m51_finding_s, a76_l (show (3 : Int32) = nI 3 from rfl) (by omega), a76_s (show (3 : Int32) = nI 3 from rfl) (by omega)]
  rfl
theorem c_found4 {V : mj_V} {I : hq_I} {J : hq_J} {ks : List Nat} {q sl : Nat} : mj_ev V 94 0 [some (.ref (V.1 + 0)), some (.int 4)] [] (hp V I J ks q sl) = some (some (.int (-3)), hp V (cF I 4) J ks q sl) := by
  simp only [r94_0, r94_1, r94_2, r94_5, r94_6, r94_9, r94_10, r94_11, r94_14, r94_15, r94_18, r94_19, r94_22, r94_23, r94_24, r94_25, r94_26, r94_27, r94_28, r94_30, Option.bind_some, Option.toList_some, Option.toList_none, List.cons_append, List.nil_append, mj_rfs, mj_rfn, if_true, if_false, not_true_eq_false, not_false_eq_true, true_or, or_true, mj_b_0, mj_b_1, mj_b_01, Decidable.not_not, c0_cls, c0_rows, c0_texts, c0_pages, c0_machines, c0_refusals, c0_findingTimes, c0_triedPlan, c0_triedHeld, c0_made, c0_pageCount, c0_day, c0_latestFinding, c0_latestAsked, c0_latestUpper, c0_latestLower, c0_latestFinding_s, a6_n, show ¬ ((4 : Int32) < 0) by decide, show ¬ (Int32.ofNat 6 ≤ (4 : Int32)) by decide, a6_l (show (4 : Int32) = nI 4 from rfl) (by omega), a6_s (show (4 : Int32) = nI 4 from rfl) (by omega)]
  rfl
theorem d_find4 {V : mj_V} {I : hq_I} {J : hq_J} {ks : List Nat} {q sl : Nat} : mj_ev V 135 0 [some (.ref (V.1 + 51)), some (.int 4)] [] (hp V I J ks q sl) = some (some (.int (-3)), hp V (dF I 4) J ks q sl) := by
  simp only [r135_0, r135_1, r135_2, r135_5, r135_6, r135_9, r135_10, r135_11, r135_12, r135_13, r135_14, r135_15, r135_17, Option.bind_some, Option.toList_some, Option.toList_none, List.cons_append, List.nil_append, mj_rfs, mj_rfn, if_true, if_false, not_true_eq_false, not_false_eq_true, true_or, or_true, mj_b_0, mj_b_1, mj_b_01, Decidable.not_not, m51_cls, m51_places, m51_rowSize, m51_bytes, m51_textSize, m51_today, m51_pages, m51_kind, m51_number, m51_till, m51_signed, m51_keys, m51_many, m51_sums, m51_lends, m51_names, m51_alsoNames, m51_has, m51_isThere, m51_order, m51_steps, m51_looksAtNumbers, m51_looksAtDays, m51_hasTwo, m51_took, m51_runs, m51_refusals, m51_asked, m51_upper, m51_lower, m51_finding, m51_findings, m51_letters, m51_lettersMany, m51_looks, m51_copies, m51_kept, m51_four, m51_h, m51_finding_s, a76_l (show (4 : Int32) = nI 4 from rfl) (by omega), a76_s (show (4 : Int32) = nI 4 from rfl) (by omega)]
  rfl
theorem c_found5 {V : mj_V} {I : hq_I} {J : hq_J} {ks : List Nat} {q sl : Nat} : mj_ev V 94 0 [some (.ref (V.1 + 0)), some (.int 5)] [] (hp V I J ks q sl) = some (some (.int (-3)), hp V (cF I 5) J ks q sl) := by
  simp only [r94_0, r94_1, r94_2, r94_5, r94_6, r94_9, r94_10, r94_11, r94_14, r94_15, r94_18, r94_19, r94_22, r94_23, r94_24, r94_25, r94_26, r94_27, r94_28, r94_30, Option.bind_some, Option.toList_some, Option.toList_none, List.cons_append, List.nil_append, mj_rfs, mj_rfn, if_true, if_false, not_true_eq_false, not_false_eq_true, true_or, or_true, mj_b_0, mj_b_1, mj_b_01, Decidable.not_not, c0_cls, c0_rows, c0_texts, c0_pages, c0_machines, c0_refusals, c0_findingTimes, c0_triedPlan, c0_triedHeld, c0_made, c0_pageCount, c0_day, c0_latestFinding, c0_latestAsked, c0_latestUpper, c0_latestLower, c0_latestFinding_s, a6_n, show ¬ ((5 : Int32) < 0) by decide, show ¬ (Int32.ofNat 6 ≤ (5 : Int32)) by decide, a6_l (show (5 : Int32) = nI 5 from rfl) (by omega), a6_s (show (5 : Int32) = nI 5 from rfl) (by omega)]
  rfl
theorem d_find5 {V : mj_V} {I : hq_I} {J : hq_J} {ks : List Nat} {q sl : Nat} : mj_ev V 135 0 [some (.ref (V.1 + 51)), some (.int 5)] [] (hp V I J ks q sl) = some (some (.int (-3)), hp V (dF I 5) J ks q sl) := by
  simp only [r135_0, r135_1, r135_2, r135_5, r135_6, r135_9, r135_10, r135_11, r135_12, r135_13, r135_14, r135_15, r135_17, Option.bind_some, Option.toList_some, Option.toList_none, List.cons_append, List.nil_append, mj_rfs, mj_rfn, if_true, if_false, not_true_eq_false, not_false_eq_true, true_or, or_true, mj_b_0, mj_b_1, mj_b_01, Decidable.not_not, m51_cls, m51_places, m51_rowSize, m51_bytes, m51_textSize, m51_today, m51_pages, m51_kind, m51_number, m51_till, m51_signed, m51_keys, m51_many, m51_sums, m51_lends, m51_names, m51_alsoNames, m51_has, m51_isThere, m51_order, m51_steps, m51_looksAtNumbers, m51_looksAtDays, m51_hasTwo, m51_took, m51_runs, m51_refusals, m51_asked, m51_upper, m51_lower, m51_finding, m51_findings, m51_letters, m51_lettersMany, m51_looks, m51_copies, m51_kept, m51_four, m51_h, m51_finding_s, a76_l (show (5 : Int32) = nI 5 from rfl) (by omega), a76_s (show (5 : Int32) = nI 5 from rfl) (by omega)]
  rfl
theorem d_tell {V : mj_V} {I : hq_I} {J : hq_J} {ks : List Nat} {q sl : Nat} (v : Int32) : mj_ev V 136 0 [some (.ref (V.1 + 51)), some (.int v)] [] (hp V I J ks q sl) = some (some (.int 1), hp V (va_up I 51 (upd (I 51) 67 v)) J ks q sl) := by
  simp only [r136_0, r136_1, r136_2, r136_5, r136_6, Option.bind_some, Option.toList_some, Option.toList_none, List.cons_append, List.nil_append, mj_rfs, mj_rfn, if_true, if_false, not_true_eq_false, not_false_eq_true, true_or, or_true, mj_b_0, mj_b_1, mj_b_01, Decidable.not_not, m51_asked_s]
