/-! sets of keys, as numbers below 1024 -/
theorem bw_and {a b : Nat} (ha : a < 2 ^ 31) (hb : b < 2 ^ 31) : nI a &&& nI b = nI (a &&& b) := by
  apply Int32.toBitVec_inj.mp
  apply BitVec.eq_of_toNat_eq
  rw [Int32.toBitVec_and, BitVec.toNat_and, pk_tn (by omega), pk_tn (by omega), pk_tn]
  exact Nat.lt_of_le_of_lt Nat.and_le_left (by omega)
theorem bw_or {a b : Nat} (ha : a < 1024) (hb : b < 1024) : nI a ||| nI b = nI (a ||| b) := by
  apply Int32.toBitVec_inj.mp
  apply BitVec.eq_of_toNat_eq
  rw [Int32.toBitVec_or, BitVec.toNat_or, pk_tn (by omega), pk_tn (by omega), pk_tn]
  have h := Nat.or_lt_two_pow (n := 10) ha hb
  omega
theorem bw_orlt {a b : Nat} (ha : a < 1024) (hb : b < 1024) : a ||| b < 1024 := Nat.or_lt_two_pow (n := 10) ha hb
theorem bw_andlt {a b : Nat} (ha : a < 1024) : a &&& b < 1024 := Nat.lt_of_le_of_lt Nat.and_le_left ha
theorem bw_bit : ∀ s, s < 1024 → ∀ a, a < 10 → ((nI s >>> (nI a &&& 31)) &&& 1) = nI (s / 2 ^ a % 2) := by decide +kernel
theorem bw_one : ∀ a, a < 10 → ((1 : Int32) <<< (nI a &&& 31)) = nI (2 ^ a) := by decide +kernel
theorem bw_pow : ∀ a, a < 10 → 2 ^ a < 1024 := by decide
def bc1 (x : Int32) : Int32 := x - ((x.toUInt32 >>> ((1 : Int32).toUInt32 &&& Int32.toUInt32 31)).toInt32 &&& 1431655765)
def bc2 (x : Int32) : Int32 := (x &&& 858993459) + ((x.toUInt32 >>> ((2 : Int32).toUInt32 &&& Int32.toUInt32 31)).toInt32 &&& 858993459)
def bc3 (x : Int32) : Int32 := (x + (x.toUInt32 >>> ((4 : Int32).toUInt32 &&& Int32.toUInt32 31)).toInt32) &&& 252645135
def bc4 (x : Int32) : Int32 := x + (x.toUInt32 >>> ((8 : Int32).toUInt32 &&& Int32.toUInt32 31)).toInt32
def bc5 (x : Int32) : Int32 := x + (x.toUInt32 >>> ((16 : Int32).toUInt32 &&& Int32.toUInt32 31)).toInt32
theorem bc_all : ∀ n, n < 1024 → (bc5 (bc4 (bc3 (bc2 (bc1 (nI n))))) &&& 63) = nI (b10 n) := by decide +kernel
theorem c_bc1 {V : mj_V} {h : mj_H} (x : Int32) : mj_ev V 215 0 [some (.int x)] [] h = mj_ev V 215 10 [some (.int (bc1 x))] [] h := by
  simp only [r215_0, r215_1, r215_2, r215_3, r215_4, r215_7, r215_8, r215_9, r215_11, r215_14, r215_15, r215_16, r215_17, r215_18, r215_21, r215_22, r215_23, r215_24, r215_25, r215_26, r215_27, r215_28, r215_29, r215_32, r215_33, r215_34, r215_35, r215_36, r215_38, r215_39, r215_40, r215_41, r215_42, r215_43, r215_45, r215_46, r215_47, r215_48, r215_49, r215_51, r215_52]
  rfl
theorem c_bc2 {V : mj_V} {h : mj_H} (x : Int32) : mj_ev V 215 10 [some (.int x)] [] h = mj_ev V 215 24 [some (.int (bc2 x))] [] h := by
  simp only [r215_0, r215_1, r215_2, r215_3, r215_4, r215_7, r215_8, r215_9, r215_10, r215_11, r215_14, r215_15, r215_16, r215_17, r215_18, r215_21, r215_22, r215_23, r215_25, r215_26, r215_27, r215_28, r215_29, r215_32, r215_33, r215_34, r215_35, r215_36, r215_38, r215_39, r215_40, r215_41, r215_42, r215_43, r215_45, r215_46, r215_47, r215_48, r215_49, r215_51, r215_52]
  rfl
theorem c_bc3 {V : mj_V} {h : mj_H} (x : Int32) : mj_ev V 215 24 [some (.int x)] [] h = mj_ev V 215 34 [some (.int (bc3 x))] [] h := by
  simp only [r215_0, r215_1, r215_2, r215_3, r215_4, r215_7, r215_8, r215_9, r215_10, r215_11, r215_14, r215_15, r215_16, r215_17, r215_18, r215_21, r215_22, r215_23, r215_24, r215_25, r215_26, r215_27, r215_28, r215_29, r215_32, r215_33, r215_35, r215_36, r215_38, r215_39, r215_40, r215_41, r215_42, r215_43, r215_45, r215_46, r215_47, r215_48, r215_49, r215_51, r215_52]
  rfl
theorem c_bc4 {V : mj_V} {h : mj_H} (x : Int32) : mj_ev V 215 34 [some (.int x)] [] h = mj_ev V 215 41 [some (.int (bc4 x))] [] h := by
  simp only [r215_0, r215_1, r215_2, r215_3, r215_4, r215_7, r215_8, r215_9, r215_10, r215_11, r215_14, r215_15, r215_16, r215_17, r215_18, r215_21, r215_22, r215_23, r215_24, r215_25, r215_26, r215_27, r215_28, r215_29, r215_32, r215_33, r215_34, r215_35, r215_36, r215_38, r215_39, r215_40, r215_42, r215_43, r215_45, r215_46, r215_47, r215_48, r215_49, r215_51, r215_52]
  rfl
theorem c_bc5 {V : mj_V} {h : mj_H} (x : Int32) : mj_ev V 215 41 [some (.int x)] [] h = mj_ev V 215 48 [some (.int (bc5 x))] [] h := by
  simp only [r215_0, r215_1, r215_2, r215_3, r215_4, r215_7, r215_8, r215_9, r215_10, r215_11, r215_14, r215_15, r215_16, r215_17, r215_18, r215_21, r215_22, r215_23, r215_24, r215_25, r215_26, r215_27, r215_28, r215_29, r215_32, r215_33, r215_34, r215_35, r215_36, r215_38, r215_39, r215_40, r215_41, r215_42, r215_43, r215_45, r215_46, r215_47, r215_49, r215_51, r215_52]
  rfl
theorem c_bitCount {V : mj_V} {h : mj_H} {n : Nat} (hn : n < 1024) : mj_ev V 215 0 [some (.int (nI n))] [] h = some (some (.int (nI (b10 n))), h) := by
  rw [c_bc1, c_bc2, c_bc3, c_bc4, c_bc5]
  simp only [r215_0, r215_1, r215_2, r215_3, r215_4, r215_7, r215_8, r215_9, r215_10, r215_11, r215_14, r215_15, r215_16, r215_17, r215_18, r215_21, r215_22, r215_23, r215_24, r215_25, r215_26, r215_27, r215_28, r215_29, r215_32, r215_33, r215_34, r215_35, r215_36, r215_38, r215_39, r215_40, r215_41, r215_42, r215_43, r215_45, r215_46, r215_47, r215_48, r215_49, r215_51, r215_52, bc_all n hn]
def vbits (x : Int32) : Nat → Int32
  | 0 => 0
  | i + 1 => vbits x i + ((x >>> (nI i &&& 31)) &&& 1)
theorem vbits_all : ∀ n, n < 1024 → vbits (nI n) 10 = nI (b10 n) := by decide +kernel
theorem l_dbits {V : mj_V} {h : mj_H} {x : Int32} : ∀ d i : Nat, i + d = 10 → mj_ev V 149 4 [some (.int x), some (.int (vbits x i)), some (.int (nI i))] [] h = some (some (.int (vbits x 10)), h)
  | 0, i, hi => by
    obtain rfl : i = 10 := by omega
    rw [r149_4]
    simp only [r149_0, r149_1, r149_2, r149_3, r149_5, r149_7, r149_10, r149_11, r149_12, r149_13, r149_14, r149_15, r149_16, r149_17, r149_18, r149_21, r149_24, r149_25, Option.bind_some, Option.toList_some, Option.toList_none, List.cons_append, List.nil_append, mj_rfs, mj_rfn, if_true, if_false, not_true_eq_false, not_false_eq_true, true_or, or_true, mj_b_0, mj_b_1, mj_b_01, Decidable.not_not, and_self, and_true, true_and, and_false, false_and, or_false, false_or, or_self, m51_cls, m51_places, m51_rowSize, m51_bytes, m51_textSize, m51_today, m51_pages, m51_kind, m51_number, m51_till, m51_signed, m51_keys, m51_many, m51_sums, m51_lends, m51_names, m51_alsoNames, m51_has, m51_isThere, m51_order, m51_steps, m51_looksAtNumbers, m51_looksAtDays, m51_hasTwo, m51_took, m51_runs, m51_refusals, m51_asked, m51_upper, m51_lower, m51_finding, m51_findings, m51_letters, m51_lettersMany, m51_looks, m51_copies, m51_kept, m51_four, m51_h, d_in, i64, d_tell, d_isMade, d_find1, d_find2, d_find3, d_find4, d_find5, tl_m99, tl_m1, tl_0, tl_1, tl_3, tl_4, tl_5, tl_6, tl_7, tl_9, tl_10, tl_17, tl_31, tl_40, tl_99, tl_999, tl_1023, Int32.lt_iff_toInt_lt, Int32.le_iff_toInt_le, ti_m99, ti_m9, ti_m4, ti_m3, ti_m2, ti_m1, ti_0, ti_1, ti_2, ti_3, ti_4, ti_5, ti_6, ti_7, ti_8, ti_9, ti_10, ti_11, ti_16, ti_20, ti_30, ti_32, ti_35, ti_40, ti_63, ti_64, ti_72, ti_76, ti_78, ti_82, ti_84, ti_99, ti_100, ti_111, ti_119, ti_125, ti_160, ti_200, ti_240, ti_256, ti_400, ti_999, ti_1000, ti_1024, show (10 : Int) ≤ (nI 10).toInt by decide]
  | d + 1, i, hi => by
    rw [r149_4]
    simp only [r149_0, r149_1, r149_2, r149_3, r149_5, r149_7, r149_10, r149_11, r149_12, r149_13, r149_14, r149_15, r149_16, r149_17, r149_18, r149_21, r149_24, r149_25, Option.bind_some, Option.toList_some, Option.toList_none, List.cons_append, List.nil_append, mj_rfs, mj_rfn, if_true, if_false, not_true_eq_false, not_false_eq_true, true_or, or_true, mj_b_0, mj_b_1, mj_b_01, Decidable.not_not, and_self, and_true, true_and, and_false, false_and, or_false, false_or, or_self, m51_cls, m51_places, m51_rowSize, m51_bytes, m51_textSize, m51_today, m51_pages, m51_kind, m51_number, m51_till, m51_signed, m51_keys, m51_many, m51_sums, m51_lends, m51_names, m51_alsoNames, m51_has, m51_isThere, m51_order, m51_steps, m51_looksAtNumbers, m51_looksAtDays, m51_hasTwo, m51_took, m51_runs, m51_refusals, m51_asked, m51_upper, m51_lower, m51_finding, m51_findings, m51_letters, m51_lettersMany, m51_looks, m51_copies, m51_kept, m51_four, m51_h, d_in, i64, d_tell, d_isMade, d_find1, d_find2, d_find3, d_find4, d_find5, tl_m99, tl_m1, tl_0, tl_1, tl_3, tl_4, tl_5, tl_6, tl_7, tl_9, tl_10, tl_17, tl_31, tl_40, tl_99, tl_999, tl_1023, Int32.lt_iff_toInt_lt, Int32.le_iff_toInt_le, ti_m99, ti_m9, ti_m4, ti_m3, ti_m2, ti_m1, ti_0, ti_1, ti_2, ti_3, ti_4, ti_5, ti_6, ti_7, ti_8, ti_9, ti_10, ti_11, ti_16, ti_20, ti_30, ti_32, ti_35, ti_40, ti_63, ti_64, ti_72, ti_76, ti_78, ti_82, ti_84, ti_99, ti_100, ti_111, ti_119, ti_125, ti_160, ti_200, ti_240, ti_256, ti_400, ti_999, ti_1000, ti_1024, nI_t (show i < 2 ^ 31 by omega), show ¬ ((10 : Int) ≤ (i : Int)) by omega, nI_1]
    exact l_dbits d (i + 1) (by omega)
theorem d_bits {V : mj_V} {h : mj_H} {n : Nat} (hn : n < 1024) : mj_ev V 149 0 [some (.int (nI n)), none, none] [] h = some (some (.int (nI (b10 n))), h) := by
  simp only [r149_0, r149_1, r149_2, r149_3, r149_5, r149_7, r149_10, r149_11, r149_12, r149_13, r149_14, r149_15, r149_16, r149_17, r149_18, r149_21, r149_24, r149_25, Option.bind_some, Option.toList_some, Option.toList_none, List.cons_append, List.nil_append, mj_rfs, mj_rfn, if_true, if_false, not_true_eq_false, not_false_eq_true, true_or, or_true, mj_b_0, mj_b_1, mj_b_01, Decidable.not_not, and_self, and_true, true_and, and_false, false_and, or_false, false_or, or_self, m51_cls, m51_places, m51_rowSize, m51_bytes, m51_textSize, m51_today, m51_pages, m51_kind, m51_number, m51_till, m51_signed, m51_keys, m51_many, m51_sums, m51_lends, m51_names, m51_alsoNames, m51_has, m51_isThere, m51_order, m51_steps, m51_looksAtNumbers, m51_looksAtDays, m51_hasTwo, m51_took, m51_runs, m51_refusals, m51_asked, m51_upper, m51_lower, m51_finding, m51_findings, m51_letters, m51_lettersMany, m51_looks, m51_copies, m51_kept, m51_four, m51_h, d_in, i64, d_tell, d_isMade, d_find1, d_find2, d_find3, d_find4, d_find5, tl_m99, tl_m1, tl_0, tl_1, tl_3, tl_4, tl_5, tl_6, tl_7, tl_9, tl_10, tl_17, tl_31, tl_40, tl_99, tl_999, tl_1023, Int32.lt_iff_toInt_lt, Int32.le_iff_toInt_le, ti_m99, ti_m9, ti_m4, ti_m3, ti_m2, ti_m1, ti_0, ti_1, ti_2, ti_3, ti_4, ti_5, ti_6, ti_7, ti_8, ti_9, ti_10, ti_11, ti_16, ti_20, ti_30, ti_32, ti_35, ti_40, ti_63, ti_64, ti_72, ti_76, ti_78, ti_82, ti_84, ti_99, ti_100, ti_111, ti_119, ti_125, ti_160, ti_200, ti_240, ti_256, ti_400, ti_999, ti_1000, ti_1024, Option.bind_some]
  refine (l_dbits 10 0 (by omega)).trans ?_
  rw [vbits_all n hn]
