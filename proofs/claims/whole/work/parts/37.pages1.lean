/-! which pages there are; making a page -/
theorem b_congr {p q : Prop} [Decidable p] [Decidable q] (h : p ↔ q) : mj_b p = mj_b q := by
  unfold mj_b
  by_cases hp : p
  · rw [if_pos hp, if_pos (h.mp hp)]
  · rw [if_neg hp, if_neg (fun x => hp (h.mpr x))]
theorem bF : mj_b False = 0 := rfl
theorem bT : mj_b True = 1 := rfl
theorem no_self {p : Prop} : (¬ p ∨ p) = True := eq_true (by
  by_cases h : p
  · exact Or.inr h
  · exact Or.inl h)
section PG
variable {V : mj_V} {I : hq_I} {J : hq_J} {ks : List Nat} {sl q : Nat}
theorem c_isPage {n : Nat} (hn : I 0 35 = nI n) (hl : n ≤ 40) (p : Int32) : mj_ev V 93 0 [some (.ref (V.1 + 0)), some (.int p)] [] (hp V I J ks q sl) = some (some (.int (mj_b (0 ≤ p.toInt ∧ p.toInt < (n : Int)))), (hp V I J ks q sl)) := by
  simp only [r93_0, r93_1, r93_4, r93_5, r93_6, r93_9, r93_12, r93_13, r93_16, r93_17, Option.bind_some, Option.toList_some, Option.toList_none, List.cons_append, List.nil_append, mj_rfs, mj_rfn, if_true, if_false, not_true_eq_false, not_false_eq_true, true_or, or_true, mj_b_0, mj_b_1, mj_b_01, Decidable.not_not, and_self, and_true, true_and, and_false, false_and, or_false, false_or, or_self, c0_cls, c0_rows, c0_texts, c0_pages, c0_machines, c0_refusals, c0_findingTimes, c0_triedPlan, c0_triedHeld, c0_made, c0_pageCount, c0_day, c0_latestFinding, c0_latestAsked, c0_latestUpper, c0_latestLower, c_isRow, c_isText, c_isMachine, c_isFile, c_isSet, c_isWhy, c_isHarm, c_isWrites, c_isHead, c_max, c_min, c_found1, c_found2, c_found3, c_found4, c_found5, Int32.lt_iff_toInt_lt, Int32.le_iff_toInt_le, ti_m99, ti_m9, ti_m4, ti_m3, ti_m2, ti_m1, ti_0, ti_1, ti_2, ti_3, ti_4, ti_5, ti_6, ti_7, ti_8, ti_9, ti_10, ti_11, ti_16, ti_20, ti_30, ti_32, ti_35, ti_40, ti_63, ti_64, ti_72, ti_76, ti_78, ti_82, ti_84, ti_99, ti_100, ti_111, ti_119, ti_125, ti_160, ti_200, ti_240, ti_256, ti_400, ti_999, ti_1000, ti_1024, hn, nI_t (show n < 2 ^ 31 by omega)]
  by_cases h1 : p.toInt < 0
  · have h2 : ¬ (0 ≤ p.toInt) := by omega
    simp only [h1, h2, if_true, false_and, bF]
  · have h2 : 0 ≤ p.toInt := by omega
    by_cases h3 : (n : Int) ≤ p.toInt
    · have h4 : ¬ (p.toInt < (n : Int)) := by omega
      simp only [h1, h3, h4, if_true, if_false, and_false, bF]
    · have h4 : p.toInt < (n : Int) := by omega
      simp only [h1, h2, h3, h4, if_false, and_self, bT]
theorem d_isPage {n : Nat} (hn : I 51 46 = nI n) (hl : n ≤ 40) (p : Int32) : mj_ev V 152 0 [some (.ref (V.1 + 51)), some (.int p)] [] (hp V I J ks q sl) = some (some (.int (mj_b (0 ≤ p.toInt ∧ p.toInt < (n : Int)))), (hp V I J ks q sl)) := by
  have e : (nI n - 1).toInt = (n : Int) - 1 := by rw [i32_sub1 (by rw [nI_t (by omega)]; omega), nI_t (by omega)]
  simp only [r152_0, r152_1, r152_2, r152_3, r152_4, r152_7, r152_8, r152_9, r152_10, r152_13, Option.bind_some, Option.toList_some, Option.toList_none, List.cons_append, List.nil_append, mj_rfs, mj_rfn, if_true, if_false, not_true_eq_false, not_false_eq_true, true_or, or_true, mj_b_0, mj_b_1, mj_b_01, Decidable.not_not, and_self, and_true, true_and, and_false, false_and, or_false, false_or, or_self, m51_cls, m51_places, m51_rowSize, m51_bytes, m51_textSize, m51_today, m51_pages, m51_kind, m51_number, m51_till, m51_signed, m51_keys, m51_many, m51_sums, m51_lends, m51_names, m51_alsoNames, m51_has, m51_isThere, m51_order, m51_steps, m51_looksAtNumbers, m51_looksAtDays, m51_hasTwo, m51_took, m51_runs, m51_refusals, m51_asked, m51_upper, m51_lower, m51_finding, m51_findings, m51_letters, m51_lettersMany, m51_looks, m51_copies, m51_kept, m51_four, m51_h, d_in, i64, d_tell, d_isMade, d_find1, d_find2, d_find3, d_find4, d_find5, tl_m99, tl_m1, tl_0, tl_1, tl_3, tl_4, tl_5, tl_6, tl_7, tl_9, tl_10, tl_17, tl_31, tl_40, tl_99, tl_999, tl_1023, Int32.lt_iff_toInt_lt, Int32.le_iff_toInt_le, ti_m99, ti_m9, ti_m4, ti_m3, ti_m2, ti_m1, ti_0, ti_1, ti_2, ti_3, ti_4, ti_5, ti_6, ti_7, ti_8, ti_9, ti_10, ti_11, ti_16, ti_20, ti_30, ti_32, ti_35, ti_40, ti_63, ti_64, ti_72, ti_76, ti_78, ti_82, ti_84, ti_99, ti_100, ti_111, ti_119, ti_125, ti_160, ti_200, ti_240, ti_256, ti_400, ti_999, ti_1000, ti_1024, hn, e, no_self]
  rw [b_congr (show (0 ≤ p.toInt ∧ p.toInt ≤ (n : Int) - 1) ↔ (0 ≤ p.toInt ∧ p.toInt < (n : Int)) by omega)]
theorem c_pageOf (hn : I 0 35 = nI ks.length) (hl : ks.length ≤ 40) {p : Nat} (hpl : p < ks.length) : mj_ev V 99 0 [some (.ref (V.1 + 0)), some (.int (nI p))] [] (hp V I J ks ks.length sl) = some (some (.ref (V.1 + hq_pa ks p)), hp V I J ks ks.length sl) := by
  simp only [r99_0, r99_1, r99_2, r99_5, r99_8, r99_9, r99_12, r99_13, r99_14, r99_14n, r99_17, r99_18, r99_18n, Option.bind_some, Option.toList_some, Option.toList_none, List.cons_append, List.nil_append, mj_rfs, mj_rfn, if_true, if_false, not_true_eq_false, not_false_eq_true, true_or, or_true, mj_b_0, mj_b_1, mj_b_01, Decidable.not_not, and_self, and_true, true_and, and_false, false_and, or_false, false_or, or_self, c0_cls, c0_rows, c0_texts, c0_pages, c0_machines, c0_refusals, c0_findingTimes, c0_triedPlan, c0_triedHeld, c0_made, c0_pageCount, c0_day, c0_latestFinding, c0_latestAsked, c0_latestUpper, c0_latestLower, c_isRow, c_isText, c_isMachine, c_isFile, c_isSet, c_isWhy, c_isHarm, c_isWrites, c_isHead, c_max, c_min, c_found1, c_found2, c_found3, c_found4, c_found5, Int32.lt_iff_toInt_lt, Int32.le_iff_toInt_le, ti_m99, ti_m9, ti_m4, ti_m3, ti_m2, ti_m1, ti_0, ti_1, ti_2, ti_3, ti_4, ti_5, ti_6, ti_7, ti_8, ti_9, ti_10, ti_11, ti_16, ti_20, ti_30, ti_32, ti_35, ti_40, ti_63, ti_64, ti_72, ti_76, ti_78, ti_82, ti_84, ti_99, ti_100, ti_111, ti_119, ti_125, ti_160, ti_200, ti_240, ti_256, ti_400, ti_999, ti_1000, ti_1024, c_isPage hn hl, nI_t (show p < 2 ^ 31 by omega), show (0 : Int) ≤ (p : Int) by omega, show (p : Int) < (ks.length : Int) by omega, hp_pages hpl hl rfl, va_rf]
theorem c_pageOfn (hn : I 0 35 = nI ks.length) (hl : ks.length ≤ 40) {p : Int32} (hpl : ¬ (0 ≤ p.toInt ∧ p.toInt < (ks.length : Int))) : mj_ev V 99 0 [some (.ref (V.1 + 0)), some (.int p)] [] (hp V I J ks q sl) = some (some .null, (hp V I J ks q sl)) := by
  simp only [r99_0, r99_1, r99_2, r99_5, r99_8, r99_9, r99_12, r99_13, r99_14, r99_14n, r99_17, r99_18, r99_18n, Option.bind_some, Option.toList_some, Option.toList_none, List.cons_append, List.nil_append, mj_rfs, mj_rfn, if_true, if_false, not_true_eq_false, not_false_eq_true, true_or, or_true, mj_b_0, mj_b_1, mj_b_01, Decidable.not_not, and_self, and_true, true_and, and_false, false_and, or_false, false_or, or_self, c0_cls, c0_rows, c0_texts, c0_pages, c0_machines, c0_refusals, c0_findingTimes, c0_triedPlan, c0_triedHeld, c0_made, c0_pageCount, c0_day, c0_latestFinding, c0_latestAsked, c0_latestUpper, c0_latestLower, c_isRow, c_isText, c_isMachine, c_isFile, c_isSet, c_isWhy, c_isHarm, c_isWrites, c_isHead, c_max, c_min, c_found1, c_found2, c_found3, c_found4, c_found5, Int32.lt_iff_toInt_lt, Int32.le_iff_toInt_le, ti_m99, ti_m9, ti_m4, ti_m3, ti_m2, ti_m1, ti_0, ti_1, ti_2, ti_3, ti_4, ti_5, ti_6, ti_7, ti_8, ti_9, ti_10, ti_11, ti_16, ti_20, ti_30, ti_32, ti_35, ti_40, ti_63, ti_64, ti_72, ti_76, ti_78, ti_82, ti_84, ti_99, ti_100, ti_111, ti_119, ti_125, ti_160, ti_200, ti_240, ti_256, ti_400, ti_999, ti_1000, ti_1024, c_isPage hn hl, hpl]
theorem c_kindOf (hn : I 0 35 = nI ks.length) (hl : ks.length ≤ 40) {p k : Nat} (hk : k ≤ 5) (h : ks[p]? = some k) : mj_ev V 102 0 [some (.ref (V.1 + 0)), some (.int (nI p)), none] [] (hp V I J ks ks.length sl) = some (some (.int (I (1000 + 4 * p) 0)), hp V I J ks ks.length sl) := by
  have hpl : p < ks.length := (List.getElem?_eq_some_iff.mp h).1
  simp only [r102_0, r102_1, r102_2, r102_5, r102_5n, r102_6, r102_6n, r102_7, r102_7n, r102_10, r102_12, r102_15, r102_15n, r102_16, r102_19, Option.bind_some, Option.toList_some, Option.toList_none, List.cons_append, List.nil_append, mj_rfs, mj_rfn, if_true, if_false, not_true_eq_false, not_false_eq_true, true_or, or_true, mj_b_0, mj_b_1, mj_b_01, Decidable.not_not, and_self, and_true, true_and, and_false, false_and, or_false, false_or, or_self, c0_cls, c0_rows, c0_texts, c0_pages, c0_machines, c0_refusals, c0_findingTimes, c0_triedPlan, c0_triedHeld, c0_made, c0_pageCount, c0_day, c0_latestFinding, c0_latestAsked, c0_latestUpper, c0_latestLower, c_isRow, c_isText, c_isMachine, c_isFile, c_isSet, c_isWhy, c_isHarm, c_isWrites, c_isHead, c_max, c_min, c_found1, c_found2, c_found3, c_found4, c_found5, Int32.lt_iff_toInt_lt, Int32.le_iff_toInt_le, ti_m99, ti_m9, ti_m4, ti_m3, ti_m2, ti_m1, ti_0, ti_1, ti_2, ti_3, ti_4, ti_5, ti_6, ti_7, ti_8, ti_9, ti_10, ti_11, ti_16, ti_20, ti_30, ti_32, ti_35, ti_40, ti_63, ti_64, ti_72, ti_76, ti_78, ti_82, ti_84, ti_99, ti_100, ti_111, ti_119, ti_125, ti_160, ti_200, ti_240, ti_256, ti_400, ti_999, ti_1000, ti_1024, c_pageOf hn hl hpl, hp_pfi h (show (mj_has (hq_pc k) 0 && !(hq_rf 0)) = true by rcases (show k = 0 ∨ k = 1 ∨ k = 2 ∨ k = 3 ∨ k = 4 ∨ k = 5 by omega) with rfl | rfl | rfl | rfl | rfl | rfl <;> rfl)]
theorem c_rootOf (hn : I 0 35 = nI ks.length) (hl : ks.length ≤ 40) {p : Nat} (h : ks[p]? = some 1) : mj_ev V 100 0 [some (.ref (V.1 + 0)), some (.int (nI p)), none, none] [] (hp V I J ks ks.length sl) = some (some (.ref (V.1 + hq_pa ks p)), hp V I J ks ks.length sl) := by
  have hpl : p < ks.length := (List.getElem?_eq_some_iff.mp h).1
  simp only [r100_0, r100_1, r100_2, r100_5, r100_5n, r100_6, r100_6n, r100_7, r100_7n, r100_10, r100_13, r100_13n, r100_14, r100_14n, r100_17, r100_17n, r100_18, r100_18n, r100_19, r100_19n, r100_22, r100_23, r100_23n, Option.bind_some, Option.toList_some, Option.toList_none, List.cons_append, List.nil_append, mj_rfs, mj_rfn, if_true, if_false, not_true_eq_false, not_false_eq_true, true_or, or_true, mj_b_0, mj_b_1, mj_b_01, Decidable.not_not, and_self, and_true, true_and, and_false, false_and, or_false, false_or, or_self, c0_cls, c0_rows, c0_texts, c0_pages, c0_machines, c0_refusals, c0_findingTimes, c0_triedPlan, c0_triedHeld, c0_made, c0_pageCount, c0_day, c0_latestFinding, c0_latestAsked, c0_latestUpper, c0_latestLower, c_isRow, c_isText, c_isMachine, c_isFile, c_isSet, c_isWhy, c_isHarm, c_isWrites, c_isHead, c_max, c_min, c_found1, c_found2, c_found3, c_found4, c_found5, Int32.lt_iff_toInt_lt, Int32.le_iff_toInt_le, ti_m99, ti_m9, ti_m4, ti_m3, ti_m2, ti_m1, ti_0, ti_1, ti_2, ti_3, ti_4, ti_5, ti_6, ti_7, ti_8, ti_9, ti_10, ti_11, ti_16, ti_20, ti_30, ti_32, ti_35, ti_40, ti_63, ti_64, ti_72, ti_76, ti_78, ti_82, ti_84, ti_99, ti_100, ti_111, ti_119, ti_125, ti_160, ti_200, ti_240, ti_256, ti_400, ti_999, ti_1000, ti_1024, c_pageOf hn hl hpl, hp_pcls h, show mj_isY (hq_pc 1) 6 = true by rfl, show ((1 : Int32) = 0) = False by decide]
theorem c_rootOfn (hn : I 0 35 = nI ks.length) (hl : ks.length ≤ 40) {p k : Nat} (hk : k ≤ 5) (h1 : k ≠ 1) (h : ks[p]? = some k) : mj_ev V 100 0 [some (.ref (V.1 + 0)), some (.int (nI p)), none, none] [] (hp V I J ks ks.length sl) = some (some .null, hp V I J ks ks.length sl) := by
  have hpl : p < ks.length := (List.getElem?_eq_some_iff.mp h).1
  have e1 : (mj_isY (hq_pc k) 6 = true) = False := by rcases (show k = 0 ∨ k = 2 ∨ k = 3 ∨ k = 4 ∨ k = 5 by omega) with rfl | rfl | rfl | rfl | rfl <;> decide
  have e2 : (mj_isN (hq_pc k) 6 = true) = True := by rcases (show k = 0 ∨ k = 2 ∨ k = 3 ∨ k = 4 ∨ k = 5 by omega) with rfl | rfl | rfl | rfl | rfl <;> decide
  simp only [r100_0, r100_1, r100_2, r100_5, r100_5n, r100_6, r100_6n, r100_7, r100_7n, r100_10, r100_13, r100_13n, r100_14, r100_14n, r100_17, r100_17n, r100_18, r100_18n, r100_19, r100_19n, r100_22, r100_23, r100_23n, Option.bind_some, Option.toList_some, Option.toList_none, List.cons_append, List.nil_append, mj_rfs, mj_rfn, if_true, if_false, not_true_eq_false, not_false_eq_true, true_or, or_true, mj_b_0, mj_b_1, mj_b_01, Decidable.not_not, and_self, and_true, true_and, and_false, false_and, or_false, false_or, or_self, c0_cls, c0_rows, c0_texts, c0_pages, c0_machines, c0_refusals, c0_findingTimes, c0_triedPlan, c0_triedHeld, c0_made, c0_pageCount, c0_day, c0_latestFinding, c0_latestAsked, c0_latestUpper, c0_latestLower, c_isRow, c_isText, c_isMachine, c_isFile, c_isSet, c_isWhy, c_isHarm, c_isWrites, c_isHead, c_max, c_min, c_found1, c_found2, c_found3, c_found4, c_found5, Int32.lt_iff_toInt_lt, Int32.le_iff_toInt_le, ti_m99, ti_m9, ti_m4, ti_m3, ti_m2, ti_m1, ti_0, ti_1, ti_2, ti_3, ti_4, ti_5, ti_6, ti_7, ti_8, ti_9, ti_10, ti_11, ti_16, ti_20, ti_30, ti_32, ti_35, ti_40, ti_63, ti_64, ti_72, ti_76, ti_78, ti_82, ti_84, ti_99, ti_100, ti_111, ti_119, ti_125, ti_160, ti_200, ti_240, ti_256, ti_400, ti_999, ti_1000, ti_1024, c_pageOf hn hl hpl, hp_pcls h, e1, e2]
theorem c_rootOfb (hn : I 0 35 = nI ks.length) (hl : ks.length ≤ 40) {p : Int32} (hpl : ¬ (0 ≤ p.toInt ∧ p.toInt < (ks.length : Int))) : mj_ev V 100 0 [some (.ref (V.1 + 0)), some (.int p), none, none] [] (hp V I J ks q sl) = some (some .null, (hp V I J ks q sl)) := by
  simp only [r100_0, r100_1, r100_2, r100_5, r100_5n, r100_6, r100_6n, r100_7, r100_7n, r100_10, r100_13, r100_13n, r100_14, r100_14n, r100_17, r100_17n, r100_18, r100_18n, r100_19, r100_19n, r100_22, r100_23, r100_23n, Option.bind_some, Option.toList_some, Option.toList_none, List.cons_append, List.nil_append, mj_rfs, mj_rfn, if_true, if_false, not_true_eq_false, not_false_eq_true, true_or, or_true, mj_b_0, mj_b_1, mj_b_01, Decidable.not_not, and_self, and_true, true_and, and_false, false_and, or_false, false_or, or_self, c0_cls, c0_rows, c0_texts, c0_pages, c0_machines, c0_refusals, c0_findingTimes, c0_triedPlan, c0_triedHeld, c0_made, c0_pageCount, c0_day, c0_latestFinding, c0_latestAsked, c0_latestUpper, c0_latestLower, c_isRow, c_isText, c_isMachine, c_isFile, c_isSet, c_isWhy, c_isHarm, c_isWrites, c_isHead, c_max, c_min, c_found1, c_found2, c_found3, c_found4, c_found5, Int32.lt_iff_toInt_lt, Int32.le_iff_toInt_le, ti_m99, ti_m9, ti_m4, ti_m3, ti_m2, ti_m1, ti_0, ti_1, ti_2, ti_3, ti_4, ti_5, ti_6, ti_7, ti_8, ti_9, ti_10, ti_11, ti_16, ti_20, ti_30, ti_32, ti_35, ti_40, ti_63, ti_64, ti_72, ti_76, ti_78, ti_82, ti_84, ti_99, ti_100, ti_111, ti_119, ti_125, ti_160, ti_200, ti_240, ti_256, ti_400, ti_999, ti_1000, ti_1024, c_pageOfn hn hl hpl]
theorem c_listingOf (hn : I 0 35 = nI ks.length) (hl : ks.length ≤ 40) {p k : Nat} (hk : k = 2 ∨ k = 3) (h : ks[p]? = some k) : mj_ev V 101 0 [some (.ref (V.1 + 0)), some (.int (nI p)), none, none] [] (hp V I J ks ks.length sl) = some (some (.ref (V.1 + hq_pa ks p)), hp V I J ks ks.length sl) := by
  have hpl : p < ks.length := (List.getElem?_eq_some_iff.mp h).1
  have e1 : (mj_isY (hq_pc k) 2 = true) = True := by rcases hk with rfl | rfl <;> decide
  simp only [r101_0, r101_1, r101_2, r101_5, r101_5n, r101_6, r101_6n, r101_7, r101_7n, r101_10, r101_13, r101_13n, r101_14, r101_14n, r101_17, r101_17n, r101_18, r101_18n, r101_19, r101_19n, r101_22, r101_23, r101_23n, Option.bind_some, Option.toList_some, Option.toList_none, List.cons_append, List.nil_append, mj_rfs, mj_rfn, if_true, if_false, not_true_eq_false, not_false_eq_true, true_or, or_true, mj_b_0, mj_b_1, mj_b_01, Decidable.not_not, and_self, and_true, true_and, and_false, false_and, or_false, false_or, or_self, c0_cls, c0_rows, c0_texts, c0_pages, c0_machines, c0_refusals, c0_findingTimes, c0_triedPlan, c0_triedHeld, c0_made, c0_pageCount, c0_day, c0_latestFinding, c0_latestAsked, c0_latestUpper, c0_latestLower, c_isRow, c_isText, c_isMachine, c_isFile, c_isSet, c_isWhy, c_isHarm, c_isWrites, c_isHead, c_max, c_min, c_found1, c_found2, c_found3, c_found4, c_found5, Int32.lt_iff_toInt_lt, Int32.le_iff_toInt_le, ti_m99, ti_m9, ti_m4, ti_m3, ti_m2, ti_m1, ti_0, ti_1, ti_2, ti_3, ti_4, ti_5, ti_6, ti_7, ti_8, ti_9, ti_10, ti_11, ti_16, ti_20, ti_30, ti_32, ti_35, ti_40, ti_63, ti_64, ti_72, ti_76, ti_78, ti_82, ti_84, ti_99, ti_100, ti_111, ti_119, ti_125, ti_160, ti_200, ti_240, ti_256, ti_400, ti_999, ti_1000, ti_1024, c_pageOf hn hl hpl, hp_pcls h, e1, show ((1 : Int32) = 0) = False by decide]
theorem c_listingOfn (hn : I 0 35 = nI ks.length) (hl : ks.length ≤ 40) {p k : Nat} (hk : k ≤ 5) (h1 : ¬ (k = 2 ∨ k = 3)) (h : ks[p]? = some k) : mj_ev V 101 0 [some (.ref (V.1 + 0)), some (.int (nI p)), none, none] [] (hp V I J ks ks.length sl) = some (some .null, hp V I J ks ks.length sl) := by
  have hpl : p < ks.length := (List.getElem?_eq_some_iff.mp h).1
  have e1 : (mj_isY (hq_pc k) 2 = true) = False := by rcases (show k = 0 ∨ k = 1 ∨ k = 4 ∨ k = 5 by omega) with rfl | rfl | rfl | rfl <;> decide
  have e2 : (mj_isN (hq_pc k) 2 = true) = True := by rcases (show k = 0 ∨ k = 1 ∨ k = 4 ∨ k = 5 by omega) with rfl | rfl | rfl | rfl <;> decide
  simp only [r101_0, r101_1, r101_2, r101_5, r101_5n, r101_6, r101_6n, r101_7, r101_7n, r101_10, r101_13, r101_13n, r101_14, r101_14n, r101_17, r101_17n, r101_18, r101_18n, r101_19, r101_19n, r101_22, r101_23, r101_23n, Option.bind_some, Option.toList_some, Option.toList_none, List.cons_append, List.nil_append, mj_rfs, mj_rfn, if_true, if_false, not_true_eq_false, not_false_eq_true, true_or, or_true, mj_b_0, mj_b_1, mj_b_01, Decidable.not_not, and_self, and_true, true_and, and_false, false_and, or_false, false_or, or_self, c0_cls, c0_rows, c0_texts, c0_pages, c0_machines, c0_refusals, c0_findingTimes, c0_triedPlan, c0_triedHeld, c0_made, c0_pageCount, c0_day, c0_latestFinding, c0_latestAsked, c0_latestUpper, c0_latestLower, c_isRow, c_isText, c_isMachine, c_isFile, c_isSet, c_isWhy, c_isHarm, c_isWrites, c_isHead, c_max, c_min, c_found1, c_found2, c_found3, c_found4, c_found5, Int32.lt_iff_toInt_lt, Int32.le_iff_toInt_le, ti_m99, ti_m9, ti_m4, ti_m3, ti_m2, ti_m1, ti_0, ti_1, ti_2, ti_3, ti_4, ti_5, ti_6, ti_7, ti_8, ti_9, ti_10, ti_11, ti_16, ti_20, ti_30, ti_32, ti_35, ti_40, ti_63, ti_64, ti_72, ti_76, ti_78, ti_82, ti_84, ti_99, ti_100, ti_111, ti_119, ti_125, ti_160, ti_200, ti_240, ti_256, ti_400, ti_999, ti_1000, ti_1024, c_pageOf hn hl hpl, hp_pcls h, e1, e2]
theorem c_listingOfb (hn : I 0 35 = nI ks.length) (hl : ks.length ≤ 40) {p : Int32} (hpl : ¬ (0 ≤ p.toInt ∧ p.toInt < (ks.length : Int))) : mj_ev V 101 0 [some (.ref (V.1 + 0)), some (.int p), none, none] [] (hp V I J ks q sl) = some (some .null, (hp V I J ks q sl)) := by
  simp only [r101_0, r101_1, r101_2, r101_5, r101_5n, r101_6, r101_6n, r101_7, r101_7n, r101_10, r101_13, r101_13n, r101_14, r101_14n, r101_17, r101_17n, r101_18, r101_18n, r101_19, r101_19n, r101_22, r101_23, r101_23n, Option.bind_some, Option.toList_some, Option.toList_none, List.cons_append, List.nil_append, mj_rfs, mj_rfn, if_true, if_false, not_true_eq_false, not_false_eq_true, true_or, or_true, mj_b_0, mj_b_1, mj_b_01, Decidable.not_not, and_self, and_true, true_and, and_false, false_and, or_false, false_or, or_self, c0_cls, c0_rows, c0_texts, c0_pages, c0_machines, c0_refusals, c0_findingTimes, c0_triedPlan, c0_triedHeld, c0_made, c0_pageCount, c0_day, c0_latestFinding, c0_latestAsked, c0_latestUpper, c0_latestLower, c_isRow, c_isText, c_isMachine, c_isFile, c_isSet, c_isWhy, c_isHarm, c_isWrites, c_isHead, c_max, c_min, c_found1, c_found2, c_found3, c_found4, c_found5, Int32.lt_iff_toInt_lt, Int32.le_iff_toInt_le, ti_m99, ti_m9, ti_m4, ti_m3, ti_m2, ti_m1, ti_0, ti_1, ti_2, ti_3, ti_4, ti_5, ti_6, ti_7, ti_8, ti_9, ti_10, ti_11, ti_16, ti_20, ti_30, ti_32, ti_35, ti_40, ti_63, ti_64, ti_72, ti_76, ti_78, ti_82, ti_84, ti_99, ti_100, ti_111, ti_119, ti_125, ti_160, ti_200, ti_240, ti_256, ti_400, ti_999, ti_1000, ti_1024, c_pageOfn hn hl hpl]
theorem c_keep {k : Nat} (hn : I 0 35 = nI q) (hq : q < 40) (h : ks[q]? = some k) (hk : k ≤ 5) : mj_ev V 98 0 [some (.ref (V.1 + 0)), some (.ref (V.1 + hq_pa ks q))] [] (hp V I J ks q sl) = some (some (.int (nI q)), hp V (va_up I 0 (upd (I 0) 35 (nI (q + 1)))) J ks (q + 1) sl) := by
  have hy : mj_isY (hq_pc k) 4 = true := by rcases (show k = 0 ∨ k = 1 ∨ k = 2 ∨ k = 3 ∨ k = 4 ∨ k = 5 by omega) with rfl | rfl | rfl | rfl | rfl | rfl <;> decide
  have e : nI (q + 1) - 1 = nI q := by
    rw [show (1 : Int32) = nI 1 from rfl, pk_sub (by omega)]
    rfl
  simp only [r98_0, r98_1, r98_4, r98_6, r98_9, r98_11, r98_12, r98_13, r98_16, r98_17, r98_20, r98_20n, r98_21, r98_22, r98_23, r98_24, r98_27, r98_28, r98_29, r98_32, r98_33, r98_36, r98_37, r98_38, Option.bind_some, Option.toList_some, Option.toList_none, List.cons_append, List.nil_append, mj_rfs, mj_rfn, if_true, if_false, not_true_eq_false, not_false_eq_true, true_or, or_true, mj_b_0, mj_b_1, mj_b_01, Decidable.not_not, and_self, and_true, true_and, and_false, false_and, or_false, false_or, or_self, c0_cls, c0_rows, c0_texts, c0_pages, c0_machines, c0_refusals, c0_findingTimes, c0_triedPlan, c0_triedHeld, c0_made, c0_pageCount, c0_day, c0_latestFinding, c0_latestAsked, c0_latestUpper, c0_latestLower, c_isRow, c_isText, c_isMachine, c_isFile, c_isSet, c_isWhy, c_isHarm, c_isWrites, c_isHead, c_max, c_min, c_found1, c_found2, c_found3, c_found4, c_found5, Int32.lt_iff_toInt_lt, Int32.le_iff_toInt_le, ti_m99, ti_m9, ti_m4, ti_m3, ti_m2, ti_m1, ti_0, ti_1, ti_2, ti_3, ti_4, ti_5, ti_6, ti_7, ti_8, ti_9, ti_10, ti_11, ti_16, ti_20, ti_30, ti_32, ti_35, ti_40, ti_63, ti_64, ti_72, ti_76, ti_78, ti_82, ti_84, ti_99, ti_100, ti_111, ti_119, ti_125, ti_160, ti_200, ti_240, ti_256, ti_400, ti_999, ti_1000, ti_1024, hn, nI_t (show q < 2 ^ 31 by omega), show (q : Int) < 40 by omega, hp_aas rfl hq h hy, nI_1, c0_pageCount_s, va_up_self, upd_us, e]
theorem c_Page_init {ci : Nat} {f : Nat → Value} {E : List mj_E} {a b c : Int32} (h0 : mj_has ci 0 = true) (h1 : mj_has ci 1 = true) (h2 : mj_has ci 2 = true) : mj_ev V 11 0 [some (.ref (V.1 + hq_pa ks ks.length)), some (.int a), some (.int b), some (.int c)] [] (hx V I J ks q sl (.inr (ci, f) :: E)) = some (none, hx V I J ks q sl (.inr (ci, va_up (va_up (va_up f 0 (.int a)) 1 (.int b)) 2 (.int c)) :: E)) := by
  simp only [r11_0, r11_1, r11_4, r11_5, r11_6, r11_9, r11_10, r11_11, r11_14, r11_15, r11_16, r11_19, Option.bind_some, Option.toList_some, Option.toList_none, List.cons_append, List.nil_append, mj_rfs, mj_rfn, if_true, if_false, not_true_eq_false, not_false_eq_true, true_or, or_true, mj_b_0, mj_b_1, mj_b_01, Decidable.not_not, and_self, and_true, true_and, and_false, false_and, or_false, false_or, or_self, c0_cls, c0_rows, c0_texts, c0_pages, c0_machines, c0_refusals, c0_findingTimes, c0_triedPlan, c0_triedHeld, c0_made, c0_pageCount, c0_day, c0_latestFinding, c0_latestAsked, c0_latestUpper, c0_latestLower, c_isRow, c_isText, c_isMachine, c_isFile, c_isSet, c_isWhy, c_isHarm, c_isWrites, c_isHead, c_max, c_min, c_found1, c_found2, c_found3, c_found4, c_found5, Int32.lt_iff_toInt_lt, Int32.le_iff_toInt_le, ti_m99, ti_m9, ti_m4, ti_m3, ti_m2, ti_m1, ti_0, ti_1, ti_2, ti_3, ti_4, ti_5, ti_6, ti_7, ti_8, ti_9, ti_10, ti_11, ti_16, ti_20, ti_30, ti_32, ti_35, ti_40, ti_63, ti_64, ti_72, ti_76, ti_78, ti_82, ti_84, ti_99, ti_100, ti_111, ti_119, ti_125, ti_160, ti_200, ti_240, ti_256, ti_400, ti_999, ti_1000, ti_1024, hx_sfl h0, hx_sfl h1, hx_sfl h2]
end PG
theorem ix10 (r i : Nat) : (10 : Int32) * nI r + nI i = nI (10 * r + i) := by
  rw [show (10 : Int32) = nI 10 from rfl, pk_mul, nI_add]
theorem l_dpage {V : mj_V} {J : hq_J} {ks : List Nat} {q sl p : Nat} {a1 a2 a3 : Option Value} (hp0 : p < 40) : ∀ (d i : Nat) (I : hq_I), I 51 46 = nI p → i + d = 10 → mj_ev V 147 55 [some (.ref (V.1 + 51)), a1, a2, a3, some (.int (nI i))] [] (hp V I J ks q sl) = some (some (.int (nI p)), hp V (va_up (va_up I 62 (fun x => if 10 * p + i ≤ x ∧ x < 10 * p + 10 then -9 else I 62 x)) 51 (upd (I 51) 46 (nI (p + 1)))) J ks q sl)
  | 0, i, I, hn, hi => by
    obtain rfl : i = 10 := by omega
    have e : nI (p + 1) - 1 = nI p := by
      rw [show (1 : Int32) = nI 1 from rfl, pk_sub (by omega)]
      rfl
    rw [r147_55]
    simp only [r147_0, r147_1, r147_4, r147_5, r147_8, r147_9, r147_10, r147_11, r147_14, r147_15, r147_18, r147_19, r147_20, r147_21, r147_24, r147_25, r147_28, r147_29, r147_30, r147_31, r147_34, r147_35, r147_38, r147_40, r147_41, r147_42, r147_45, r147_46, r147_49, r147_51, r147_52, r147_53, r147_57, r147_59, r147_62, r147_63, r147_66, r147_68, r147_69, r147_72, r147_73, r147_75, r147_76, r147_78, r147_79, r147_82, r147_85, r147_86, r147_87, r147_90, r147_91, r147_92, r147_95, r147_96, r147_99, r147_100, r147_101, Option.bind_some, Option.toList_some, Option.toList_none, List.cons_append, List.nil_append, mj_rfs, mj_rfn, if_true, if_false, not_true_eq_false, not_false_eq_true, true_or, or_true, mj_b_0, mj_b_1, mj_b_01, Decidable.not_not, and_self, and_true, true_and, and_false, false_and, or_false, false_or, or_self, m51_cls, m51_places, m51_rowSize, m51_bytes, m51_textSize, m51_today, m51_pages, m51_kind, m51_number, m51_till, m51_signed, m51_keys, m51_many, m51_sums, m51_lends, m51_names, m51_alsoNames, m51_has, m51_isThere, m51_order, m51_steps, m51_looksAtNumbers, m51_looksAtDays, m51_hasTwo, m51_took, m51_runs, m51_refusals, m51_asked, m51_upper, m51_lower, m51_finding, m51_findings, m51_letters, m51_lettersMany, m51_looks, m51_copies, m51_kept, m51_four, m51_h, d_in, i64, d_tell, d_isMade, d_find1, d_find2, d_find3, d_find4, d_find5, tl_m99, tl_m1, tl_0, tl_1, tl_3, tl_4, tl_5, tl_6, tl_7, tl_9, tl_10, tl_17, tl_31, tl_40, tl_99, tl_999, tl_1023, Int32.lt_iff_toInt_lt, Int32.le_iff_toInt_le, ti_m99, ti_m9, ti_m4, ti_m3, ti_m2, ti_m1, ti_0, ti_1, ti_2, ti_3, ti_4, ti_5, ti_6, ti_7, ti_8, ti_9, ti_10, ti_11, ti_16, ti_20, ti_30, ti_32, ti_35, ti_40, ti_63, ti_64, ti_72, ti_76, ti_78, ti_82, ti_84, ti_99, ti_100, ti_111, ti_119, ti_125, ti_160, ti_200, ti_240, ti_256, ti_400, ti_999, ti_1000, ti_1024, show (10 : Int) ≤ (nI 10).toInt by decide, hn, nI_1, m51_pages_s, va_up_self, upd_us, e]
    have e : (fun j => if 10 * p + 10 ≤ j ∧ j < 10 * p + 10 then -9 else I 62 j) = I 62 := by
      funext j
      rw [if_neg (by omega)]
    rw [e, va_up_same]
  | d + 1, i, I, hn, hi => by
    rw [r147_55]
    simp only [r147_0, r147_1, r147_4, r147_5, r147_8, r147_9, r147_10, r147_11, r147_14, r147_15, r147_18, r147_19, r147_20, r147_21, r147_24, r147_25, r147_28, r147_29, r147_30, r147_31, r147_34, r147_35, r147_38, r147_40, r147_41, r147_42, r147_45, r147_46, r147_49, r147_51, r147_52, r147_53, r147_57, r147_59, r147_62, r147_63, r147_66, r147_68, r147_69, r147_72, r147_73, r147_75, r147_76, r147_78, r147_79, r147_82, r147_85, r147_86, r147_87, r147_90, r147_91, r147_92, r147_95, r147_96, r147_99, r147_100, r147_101, Option.bind_some, Option.toList_some, Option.toList_none, List.cons_append, List.nil_append, mj_rfs, mj_rfn, if_true, if_false, not_true_eq_false, not_false_eq_true, true_or, or_true, mj_b_0, mj_b_1, mj_b_01, Decidable.not_not, and_self, and_true, true_and, and_false, false_and, or_false, false_or, or_self, m51_cls, m51_places, m51_rowSize, m51_bytes, m51_textSize, m51_today, m51_pages, m51_kind, m51_number, m51_till, m51_signed, m51_keys, m51_many, m51_sums, m51_lends, m51_names, m51_alsoNames, m51_has, m51_isThere, m51_order, m51_steps, m51_looksAtNumbers, m51_looksAtDays, m51_hasTwo, m51_took, m51_runs, m51_refusals, m51_asked, m51_upper, m51_lower, m51_finding, m51_findings, m51_letters, m51_lettersMany, m51_looks, m51_copies, m51_kept, m51_four, m51_h, d_in, i64, d_tell, d_isMade, d_find1, d_find2, d_find3, d_find4, d_find5, tl_m99, tl_m1, tl_0, tl_1, tl_3, tl_4, tl_5, tl_6, tl_7, tl_9, tl_10, tl_17, tl_31, tl_40, tl_99, tl_999, tl_1023, Int32.lt_iff_toInt_lt, Int32.le_iff_toInt_le, ti_m99, ti_m9, ti_m4, ti_m3, ti_m2, ti_m1, ti_0, ti_1, ti_2, ti_3, ti_4, ti_5, ti_6, ti_7, ti_8, ti_9, ti_10, ti_11, ti_16, ti_20, ti_30, ti_32, ti_35, ti_40, ti_63, ti_64, ti_72, ti_76, ti_78, ti_82, ti_84, ti_99, ti_100, ti_111, ti_119, ti_125, ti_160, ti_200, ti_240, ti_256, ti_400, ti_999, ti_1000, ti_1024, nI_t (show i < 2 ^ 31 by omega), show ¬ ((10 : Int) ≤ (i : Int)) by omega, hn, a62_s (ix10 p i) (show 10 * p + i < 400 by omega), nI_1]
    rw [l_dpage hp0 d (i + 1) _ (by rw [va_up_ne _ _ (by omega)]; exact hn) (by omega), va_up_up, va_up_ne _ _ (show 51 ≠ 62 by omega)]
    congr 4
    apply congrArg
    funext j
    simp only [va_up_self, upd_a]
    by_cases h1 : j = 10 * p + i
    · subst h1
      rw [if_neg (by omega), if_pos rfl, if_pos (by omega)]
    · by_cases h2 : 10 * p + (i + 1) ≤ j ∧ j < 10 * p + 10
      · rw [if_pos h2, if_pos (by omega)]
      · rw [if_neg h2, if_neg h1, if_neg (by omega)]
/-- the model's arrays with a page more -/
def vpage (I : hq_I) (p : Nat) (a b c : Int32) : hq_I := va_up (va_up (va_up (va_up (va_up (va_up (va_up I 56 (upd (I 56) p a)) 57 (upd (I 57) p b)) 58 (upd (I 58) p c)) 64 (upd (I 64) p (-9))) 65 (upd (I 65) p (-9))) 62 (fun x => if 10 * p ≤ x ∧ x < 10 * p + 10 then -9 else I 62 x)) 51 (upd (I 51) 46 (nI (p + 1)))
theorem d_page {V : mj_V} {I : hq_I} {J : hq_J} {ks : List Nat} {q sl : Nat} {p : Nat} {a b c : Int32} (hp0 : p < 40) (hn : I 51 46 = nI p) : mj_ev V 147 0 [some (.ref (V.1 + 51)), some (.int a), some (.int b), some (.int c), none] [] (hp V I J ks q sl) = some (some (.int (nI p)), hp V (vpage I p a b c) J ks q sl) := by
  simp only [r147_0, r147_1, r147_4, r147_5, r147_8, r147_9, r147_10, r147_11, r147_14, r147_15, r147_18, r147_19, r147_20, r147_21, r147_24, r147_25, r147_28, r147_29, r147_30, r147_31, r147_34, r147_35, r147_38, r147_40, r147_41, r147_42, r147_45, r147_46, r147_49, r147_51, r147_52, r147_53, r147_57, r147_59, r147_62, r147_63, r147_66, r147_68, r147_69, r147_72, r147_73, r147_75, r147_76, r147_78, r147_79, r147_82, r147_85, r147_86, r147_87, r147_90, r147_91, r147_92, r147_95, r147_96, r147_99, r147_100, r147_101, Option.bind_some, Option.toList_some, Option.toList_none, List.cons_append, List.nil_append, mj_rfs, mj_rfn, if_true, if_false, not_true_eq_false, not_false_eq_true, true_or, or_true, mj_b_0, mj_b_1, mj_b_01, Decidable.not_not, and_self, and_true, true_and, and_false, false_and, or_false, false_or, or_self, m51_cls, m51_places, m51_rowSize, m51_bytes, m51_textSize, m51_today, m51_pages, m51_kind, m51_number, m51_till, m51_signed, m51_keys, m51_many, m51_sums, m51_lends, m51_names, m51_alsoNames, m51_has, m51_isThere, m51_order, m51_steps, m51_looksAtNumbers, m51_looksAtDays, m51_hasTwo, m51_took, m51_runs, m51_refusals, m51_asked, m51_upper, m51_lower, m51_finding, m51_findings, m51_letters, m51_lettersMany, m51_looks, m51_copies, m51_kept, m51_four, m51_h, d_in, i64, d_tell, d_isMade, d_find1, d_find2, d_find3, d_find4, d_find5, tl_m99, tl_m1, tl_0, tl_1, tl_3, tl_4, tl_5, tl_6, tl_7, tl_9, tl_10, tl_17, tl_31, tl_40, tl_99, tl_999, tl_1023, Int32.lt_iff_toInt_lt, Int32.le_iff_toInt_le, ti_m99, ti_m9, ti_m4, ti_m3, ti_m2, ti_m1, ti_0, ti_1, ti_2, ti_3, ti_4, ti_5, ti_6, ti_7, ti_8, ti_9, ti_10, ti_11, ti_16, ti_20, ti_30, ti_32, ti_35, ti_40, ti_63, ti_64, ti_72, ti_76, ti_78, ti_82, ti_84, ti_99, ti_100, ti_111, ti_119, ti_125, ti_160, ti_200, ti_240, ti_256, ti_400, ti_999, ti_1000, ti_1024, hn, a56_s rfl hp0, a57_s rfl hp0, a58_s rfl hp0, a64_s rfl hp0, a65_s rfl hp0, va_up_ne _ _ (show 51 ≠ 56 by omega), va_up_ne _ _ (show 51 ≠ 57 by omega), va_up_ne _ _ (show 51 ≠ 58 by omega), va_up_ne _ _ (show 51 ≠ 64 by omega), va_up_ne _ _ (show 51 ≠ 65 by omega)]
  refine (l_dpage hp0 10 0 _ ?_ (by omega)).trans ?_
  · simp (disch := omega) only [va_up_ne, hn]
  · unfold vpage
    simp (disch := omega) only [va_up_ne]
    rfl
theorem vP1.cg {I I' : hq_I} {p k : Nat} (h : vP1 I p k) (h0 : ∀ j, j = 56 ∨ j = 57 ∨ j = 58 ∨ j = 59 ∨ j = 63 ∨ j = 64 ∨ j = 65 ∨ j = 66 → I' j p = I j p) (h1 : ∀ i, i < 5 → I' 60 (5 * p + i) = I 60 (5 * p + i) ∧ I' 61 (5 * p + i) = I 61 (5 * p + i)) (h2 : ∀ f, f < 10 → I' 62 (10 * p + f) = I 62 (10 * p + f)) (h3 : I' (1000 + 4 * p) = I (1000 + 4 * p)) (h4 : I' (1001 + 4 * p) = I (1001 + 4 * p)) (h5 : I' (1002 + 4 * p) = I (1002 + 4 * p)) : vP1 I' p k := by
  unfold vP1 at *
  rw [h0 56 (by omega), h0 57 (by omega), h0 58 (by omega), h0 59 (by omega), h0 63 (by omega), h0 64 (by omega), h0 65 (by omega), h0 66 (by omega), h3, h4, h5]
  obtain ⟨a, b, c, d, e, f, g, i, j⟩ := h
  refine ⟨a, b, c, d, e, fun hk j hj => ?_, fun hk => ⟨fun f hf => ?_, (g hk).2⟩, i, j⟩
  · rw [(h1 j hj).1, (h1 j hj).2]
    exact f hk j hj
  · rw [h2 f hf]
    exact (g hk).1 f hf
theorem ks_lt {ks : List Nat} {p k : Nat} (h : ks[p]? = some k) : p < ks.length := (List.getElem?_eq_some_iff.mp h).1
theorem ks_app {ks : List Nat} {p k k' : Nat} (h : ks[p]? = some k) : (ks ++ [k'])[p]? = some k := by
  rw [List.getElem?_append_left (ks_lt h), h]
theorem ks_new {ks : List Nat} {k : Nat} : (ks ++ [k])[ks.length]? = some k := by
  rw [List.getElem?_append_right (by omega), Nat.sub_self]
  rfl
theorem ks_len {ks : List Nat} {k : Nat} : (ks ++ [k]).length = ks.length + 1 := by
  rw [List.length_append]
  rfl
theorem inv_page {I I' : hq_I} {J : hq_J} {ks : List Nat} {sl sl' k : Nat} (h : Inv I J ks sl) (hl : ks.length < 40) (hs : sl' ≤ sl + 30) (ha : ∀ id, id < 1000 → id ≠ 0 → id ≠ 51 → ¬ (56 ≤ id ∧ id ≤ 65 ∧ id ≠ 59) → I' id = I id) (hp : ∀ id, 1000 ≤ id → id < 1000 + 4 * ks.length → I' id = I id) (h0 : ∀ g, g ≠ 35 → I' 0 g = I 0 g) (h0' : I' 0 35 = nI (ks.length + 1)) (h51 : ∀ g, g ≠ 46 → I' 51 g = I 51 g) (h51' : I' 51 46 = nI (ks.length + 1))
    (h56 : ∀ j p, j = 56 ∨ j = 57 ∨ j = 58 ∨ j = 63 ∨ j = 64 ∨ j = 65 → p ≠ ks.length → I' j p = I j p) (h60 : ∀ x, x < 5 * ks.length → I' 60 x = I 60 x ∧ I' 61 x = I 61 x) (h62 : ∀ x, x < 10 * ks.length → I' 62 x = I 62 x) (hnew : vP1 I' ks.length k) : Inv I' J (ks ++ [k]) sl' := by
  obtain ⟨vf, va, vd, vr, vt, vx, vp, vm, vl⟩ := h
  have e59 := ha 59 (by omega) (by omega) (by omega) (by omega)
  have e66 := ha 66 (by omega) (by omega) (by omega) (by omega)
  refine ⟨vf.congr (h0 _ (by omega)) (h51 _ (by omega)) (ha _ (by omega) (by omega) (by omega) (by omega)) (ha _ (by omega) (by omega) (by omega) (by omega)), va.congr (h0 _ (by omega)) (h51 _ (by omega)), vd.congr (h0 _ (by omega)) (h51 _ (by omega)), vr.congr (ha _ (by omega) (by omega) (by omega) (by omega)) (fun j h1 h2 => ha _ (by omega) (by omega) (by omega) (by omega)) (ha _ (by omega) (by omega) (by omega) (by omega)), vt.congr (ha _ (by omega) (by omega) (by omega) (by omega)) (fun j h1 h2 => ha _ (by omega) (by omega) (by omega) (by omega)) (ha _ (by omega) (by omega) (by omega) (by omega)), vx.congr (ha _ (by omega) (by omega) (by omega) (by omega)) (ha _ (by omega) (by omega) (by omega) (by omega)), ⟨?_, ?_, ?_⟩, ?_, ?_⟩
  · rw [ks_len]
    exact ⟨h0', h51', by omega⟩
  · intro p k' hpk
    by_cases hpl : p < ks.length
    · rw [List.getElem?_append_left hpl] at hpk
      refine (vp.2.1 p k' hpk).cg ?_ ?_ ?_ (hp _ (by omega) (by omega)) (hp _ (by omega) (by omega)) (hp _ (by omega) (by omega))
      · intro j hj
        by_cases h59 : j = 59
        · rw [h59, e59]
        · by_cases h66 : j = 66
          · rw [h66, e66]
          · exact h56 j p (by omega) (by omega)
      · exact fun i hi => h60 _ (by omega)
      · exact fun f hf => h62 _ (by omega)
    · have hlt := ks_lt hpk
      rw [ks_len] at hlt
      obtain rfl : p = ks.length := by omega
      rw [ks_new] at hpk
      cases hpk
      exact hnew
  · intro p h1 h2
    rw [ks_len] at h1
    rw [e59, e66]
    exact vp.2.2 p (by omega) h2
  · have vm' := vm.congr (I' := I') (fun j h1 h2 => ha _ (by omega) (by omega) (by omega) (by omega)) (fun j h1 h2 => ha _ (by omega) (by omega) (by omega) (by omega))
    intro m hm
    obtain ⟨a, b⟩ := vm' m hm
    refine ⟨a, b.imp_right fun b => ⟨b.1, b.2.1, fun w hw => ⟨(b.2.2.1 w hw).1, (b.2.2.1 w hw).2.imp_right ?_⟩, b.2.2.2⟩⟩
    rintro ⟨p, h1, h2⟩
    exact ⟨p, h1, ks_app h2⟩
  · rw [ks_len]
    omega
theorem ob_0 (V : mj_V) (P : Nat) (a b c : Int32) : va_up (va_up (va_up mj_born 0 (.int a)) 1 (.int b)) 2 (.int c) = hq_of V 0 P (upd (upd (upd (fun _ => 0) 0 a) 1 b) 2 c) := by
  funext g
  by_cases h0 : g = 0
  · subst h0; rfl
  by_cases h1 : g = 1
  · subst h1; rfl
  by_cases h2 : g = 2
  · subst h2; rfl
  by_cases h3 : g = 3
  · subst h3; rfl
  by_cases h4 : g = 4
  · subst h4; rfl
  have e : mj_has (hq_pc 0) g = false := by simp [mj_has, mj_gi, hq_pc, h0, h1, h2, h3, h4]
  unfold hq_of
  rw [e, va_up_ne _ _ h2, va_up_ne _ _ h1, va_up_ne _ _ h0]
  rfl
/-- the class's numbers with a page more -/
def vkeep (I : hq_I) (p : Nat) (F0 F1 F2 : Nat → Int32) : hq_I := va_up (vnew I p F0 F1 F2) 0 (upd (I 0) 35 (nI (p + 1)))
theorem vkeep_lo {I : hq_I} {p id : Nat} {F0 F1 F2 : Nat → Int32} (h : id < 1000 + 4 * p) (h2 : id ≠ 0) : vkeep I p F0 F1 F2 id = I id := by
  unfold vkeep
  rw [va_up_ne _ _ h2, vnew_lo h]
theorem vkeep_z {I : hq_I} {p : Nat} {F0 F1 F2 : Nat → Int32} : vkeep I p F0 F1 F2 0 = upd (I 0) 35 (nI (p + 1)) := by
  unfold vkeep
  rw [va_up_self]
theorem vkeep_0 {I : hq_I} {p : Nat} {F0 F1 F2 : Nat → Int32} : vkeep I p F0 F1 F2 (1000 + 4 * p) = F0 := by
  unfold vkeep
  rw [va_up_ne _ _ (by omega), vnew_0]
theorem vkeep_1 {I : hq_I} {p : Nat} {F0 F1 F2 : Nat → Int32} : vkeep I p F0 F1 F2 (1001 + 4 * p) = F1 := by
  unfold vkeep
  rw [va_up_ne _ _ (by omega), vnew_1]
theorem vkeep_2 {I : hq_I} {p : Nat} {F0 F1 F2 : Nat → Int32} : vkeep I p F0 F1 F2 (1002 + 4 * p) = F2 := by
  unfold vkeep
  rw [va_up_ne _ _ (by omega), vnew_2]
theorem c_keep' {V : mj_V} {I : hq_I} {J : hq_J} {ks : List Nat} {sl k : Nat} {F0 F1 F2 : Nat → Int32} (hn : I 0 35 = nI ks.length) (hl : ks.length < 40) (hk : k ≤ 5) : mj_ev V 98 0 [some (.ref (V.1 + 0)), some (.ref (V.1 + hq_pa ks ks.length))] [] (hp V (vnew I ks.length F0 F1 F2) J (ks ++ [k]) ks.length sl) = some (some (.int (nI ks.length)), hp V (vkeep I ks.length F0 F1 F2) J (ks ++ [k]) (ks.length + 1) sl) := by
  have K := c_keep (V := V) (I := vnew I ks.length F0 F1 F2) (J := J) (ks := ks ++ [k]) (q := ks.length) (sl := sl) (k := k) (by rw [vnew_lo (by omega)]; exact hn) hl ks_new hk
  rw [hq_pa_app k (Nat.le_refl _)] at K
  rw [K]
  unfold vkeep
  rw [vnew_lo (show 0 < 1000 + 4 * ks.length by omega)]
theorem d_page' {V : mj_V} {I : hq_I} {J : hq_J} {ks : List Nat} {q sl : Nat} {p : Nat} {a b c : Int32} {F0 F1 F2 : Nat → Int32} (hp0 : p < 40) (hn : I 51 46 = nI p) : mj_ev V 147 0 [some (.ref (V.1 + 51)), some (.int a), some (.int b), some (.int c), none] [] (hp V (vkeep I p F0 F1 F2) J ks q sl) = some (some (.int (nI p)), hp V (vpage (vkeep I p F0 F1 F2) p a b c) J ks q sl) := d_page hp0 (by rw [vkeep_lo (by omega) (by omega)]; exact hn)
theorem nI_40 {n : Nat} (h : n < 40) : (nI n = 40) = False := eq_false fun e => by
  have := congrArg Int32.toInt e
  rw [nI_t (by omega), ti_40] at this
  omega
theorem eq40 : ((40 : Int32) = 40) = True := eq_true rfl
theorem z35 {I : hq_I} {n : Nat} (h : I 0 35 = nI n) (hn : n = 40) : I 0 35 = 40 := by rw [h, hn]; rfl
theorem z46 {I : hq_I} {n : Nat} (h : I 51 46 = nI n) (hn : n = 40) : I 51 46 = 40 := by rw [h, hn]; rfl
theorem inv_kept {I I' : hq_I} {J : hq_J} {ks : List Nat} {sl sl' k : Nat} {a b : Int32} {F0 F1 F2 : Nat → Int32} (h : Inv I J ks sl) (hl : ks.length < 40) (hs : sl' ≤ sl + 30) (hk : k ≤ 5) (h1 : 1 ≤ a.toInt ∧ a.toInt ≤ 99) (hF : F0 0 = nI k ∧ F0 1 = a ∧ F0 2 = b ∧ F0 3 = 0 ∧ F0 4 = 0) (hA : ∀ id, ¬ (60 ≤ id ∧ id ≤ 65) → I' id = vpage (vkeep I ks.length F0 F1 F2) ks.length (nI k) a b id)
    (h56 : ∀ p, p ≠ ks.length → I' 63 p = I 63 p ∧ I' 64 p = I 64 p ∧ I' 65 p = I 65 p) (h60 : ∀ x, x < 5 * ks.length → I' 60 x = I 60 x ∧ I' 61 x = I 61 x) (h62 : ∀ x, x < 10 * ks.length → I' 62 x = I 62 x)
    (hr : k = 1 → ∀ j, j < 5 → I' 60 (5 * ks.length + j) = F1 j ∧ I' 61 (5 * ks.length + j) = F2 j ∧ ∃ n m, n < 1024 ∧ 1 ≤ m ∧ m ≤ b10 n ∧ F1 j = nI n ∧ F2 j = nI m)
    (hi : k = 2 ∨ k = 3 → (∀ f, f < 10 → I' 62 (10 * ks.length + f) = F1 f ∧ vS (F1 f)) ∧ I' 63 ks.length = F0 7 ∧ (∃ n, n < 1024 ∧ F0 7 = nI n) ∧ F0 8 = nI (vcnt F1 10))
    (ht : k = 4 → I' 64 ks.length = F0 24 ∧ I' 65 ks.length = F0 25) (hh : k = 5 → I' 64 ks.length = F0 5) : Inv I' J (ks ++ [k]) sl' := by
  obtain ⟨f0, f1, f2, f3, f4⟩ := hF
  have hz := h.2.2.2.2.2.2.1.2.2 ks.length (Nat.le_refl _) hl
  have hlo : ∀ id, id < 1000 → id ≠ 0 → id ≠ 51 → ¬ (56 ≤ id ∧ id ≤ 65 ∧ id ≠ 59) → I' id = I id := by
    intro id h1 h2 h3 h4
    rw [hA id (by omega)]
    unfold vpage
    simp (disch := omega) only [va_up_ne, vkeep_lo]
  have e0 : I' (1000 + 4 * ks.length) = F0 := by
    rw [hA _ (by omega)]
    unfold vpage
    simp (disch := omega) only [va_up_ne, vkeep_0]
  have e1 : I' (1001 + 4 * ks.length) = F1 := by
    rw [hA _ (by omega)]
    unfold vpage
    simp (disch := omega) only [va_up_ne, vkeep_1]
  have e2 : I' (1002 + 4 * ks.length) = F2 := by
    rw [hA _ (by omega)]
    unfold vpage
    simp (disch := omega) only [va_up_ne, vkeep_2]
  refine inv_page h hl hs hlo ?_ ?_ ?_ ?_ ?_ ?_ h60 h62 ?_
  · intro id h1 h2
    rw [hA id (by omega)]
    unfold vpage
    simp (disch := omega) only [va_up_ne, vkeep_lo]
  · intro g hg
    rw [hA 0 (by omega)]
    unfold vpage
    simp (disch := omega) only [va_up_ne, vkeep_z, upd_ne]
  · rw [hA 0 (by omega)]
    unfold vpage
    simp (disch := omega) only [va_up_ne, vkeep_z, upd_us]
  · intro g hg
    rw [hA 51 (by omega)]
    unfold vpage
    simp (disch := omega) only [va_up_ne, va_up_self, vkeep_lo, upd_ne]
  · rw [hA 51 (by omega)]
    unfold vpage
    simp (disch := omega) only [va_up_ne, va_up_self, upd_us]
  · intro j p hj hp
    rcases hj with rfl | rfl | rfl | rfl | rfl | rfl
    · rw [hA 56 (by omega)]
      unfold vpage
      simp (disch := omega) only [va_up_ne, va_up_self, vkeep_lo, upd_ne]
    · rw [hA 57 (by omega)]
      unfold vpage
      simp (disch := omega) only [va_up_ne, va_up_self, vkeep_lo, upd_ne]
    · rw [hA 58 (by omega)]
      unfold vpage
      simp (disch := omega) only [va_up_ne, va_up_self, vkeep_lo, upd_ne]
    · exact (h56 p hp).1
    · exact (h56 p hp).2.1
    · exact (h56 p hp).2.2
  · unfold vP1
    rw [e0, e1, e2, hlo 59 (by omega) (by omega) (by omega) (by omega), hlo 66 (by omega) (by omega) (by omega) (by omega), hz.1, hz.2, f0, f1, f2, f3, f4, hA 56 (by omega), hA 57 (by omega), hA 58 (by omega)]
    refine ⟨⟨hk, rfl, ?_⟩, ⟨?_, h1⟩, ?_, ⟨rfl, 0, by omega, rfl⟩, rfl, hr, hi, ht, hh⟩
    · unfold vpage
      simp (disch := omega) only [va_up_ne, va_up_self, upd_us]
    · unfold vpage
      simp (disch := omega) only [va_up_ne, va_up_self, upd_us]
    · unfold vpage
      simp (disch := omega) only [va_up_ne, va_up_self, upd_us]
theorem s_note (V : mj_V) (a b : Int32) : S2 V 49 148 [some (.ref (V.1 + 0)), some (.int a), some (.int b)] [some (.ref (V.1 + 51)), some (.int a), some (.int b)] := by
  intro I J ks sl hI
  obtain ⟨hn, hn', hl⟩ := hI.2.2.2.2.2.2.1.1
  by_cases h0 : (1 ≤ a.toInt ∧ a.toInt ≤ 99) ∧ 0 ≤ b.toInt ∧ b.toInt ≤ 999
  · by_cases h1 : ks.length = 40
    · refine ⟨.int (-2), I, J, ks, sl, I, J, ?_, ?_, hI⟩
      · simp only [r49_0, r49_1, r49_2, r49_5, r49_8, r49_9, r49_10, r49_11, r49_14, r49_16, r49_19, r49_21, r49_22, r49_23, r49_26, r49_27, r49_28, r49_29, r49_30, r49_33, r49_36, Option.bind_some, Option.toList_some, Option.toList_none, List.cons_append, List.nil_append, mj_rfs, mj_rfn, if_true, if_false, not_true_eq_false, not_false_eq_true, true_or, or_true, mj_b_0, mj_b_1, mj_b_01, Decidable.not_not, and_self, and_true, true_and, and_false, false_and, or_false, false_or, or_self, c0_cls, c0_rows, c0_texts, c0_pages, c0_machines, c0_refusals, c0_findingTimes, c0_triedPlan, c0_triedHeld, c0_made, c0_pageCount, c0_day, c0_latestFinding, c0_latestAsked, c0_latestUpper, c0_latestLower, c_isRow, c_isText, c_isMachine, c_isFile, c_isSet, c_isWhy, c_isHarm, c_isWrites, c_isHead, c_max, c_min, c_found1, c_found2, c_found3, c_found4, c_found5, Int32.lt_iff_toInt_lt, Int32.le_iff_toInt_le, ti_m99, ti_m9, ti_m4, ti_m3, ti_m2, ti_m1, ti_0, ti_1, ti_2, ti_3, ti_4, ti_5, ti_6, ti_7, ti_8, ti_9, ti_10, ti_11, ti_16, ti_20, ti_30, ti_32, ti_35, ti_40, ti_63, ti_64, ti_72, ti_76, ti_78, ti_82, ti_84, ti_99, ti_100, ti_111, ti_119, ti_125, ti_160, ti_200, ti_240, ti_256, ti_400, ti_999, ti_1000, ti_1024, h0, z35 hn h1, show ¬ ((40 : Int) < 40) by omega]
      · simp only [r148_0, r148_1, r148_2, r148_5, r148_8, r148_9, r148_10, r148_11, r148_14, r148_16, r148_19, r148_21, r148_24, r148_25, r148_26, r148_27, r148_28, r148_31, Option.bind_some, Option.toList_some, Option.toList_none, List.cons_append, List.nil_append, mj_rfs, mj_rfn, if_true, if_false, not_true_eq_false, not_false_eq_true, true_or, or_true, mj_b_0, mj_b_1, mj_b_01, Decidable.not_not, and_self, and_true, true_and, and_false, false_and, or_false, false_or, or_self, m51_cls, m51_places, m51_rowSize, m51_bytes, m51_textSize, m51_today, m51_pages, m51_kind, m51_number, m51_till, m51_signed, m51_keys, m51_many, m51_sums, m51_lends, m51_names, m51_alsoNames, m51_has, m51_isThere, m51_order, m51_steps, m51_looksAtNumbers, m51_looksAtDays, m51_hasTwo, m51_took, m51_runs, m51_refusals, m51_asked, m51_upper, m51_lower, m51_finding, m51_findings, m51_letters, m51_lettersMany, m51_looks, m51_copies, m51_kept, m51_four, m51_h, d_in, i64, d_tell, d_isMade, d_find1, d_find2, d_find3, d_find4, d_find5, tl_m99, tl_m1, tl_0, tl_1, tl_3, tl_4, tl_5, tl_6, tl_7, tl_9, tl_10, tl_17, tl_31, tl_40, tl_99, tl_999, tl_1023, Int32.lt_iff_toInt_lt, Int32.le_iff_toInt_le, ti_m99, ti_m9, ti_m4, ti_m3, ti_m2, ti_m1, ti_0, ti_1, ti_2, ti_3, ti_4, ti_5, ti_6, ti_7, ti_8, ti_9, ti_10, ti_11, ti_16, ti_20, ti_30, ti_32, ti_35, ti_40, ti_63, ti_64, ti_72, ti_76, ti_78, ti_82, ti_84, ti_99, ti_100, ti_111, ti_119, ti_125, ti_160, ti_200, ti_240, ti_256, ti_400, ti_999, ti_1000, ti_1024, h0, z46 hn' h1]
    · have hl : ks.length < 40 := by omega
      have z1 := nI_40 hl
      have D := hx_done (V := V) (I := I) (J := J) (q := ks.length) (sl := sl + 5) (F1 := fun _ => 0) (F2 := fun _ => 0) (k := 0) (as := []) (Nat.le_refl _) (ob_0 V (hq_pa ks ks.length) 0 a b) rfl
      have D : hx V I J ks ks.length (sl + 5) [.inr (4, va_up (va_up (va_up mj_born 0 (.int 0)) 1 (.int a)) 2 (.int b))] = _ := D
      refine ⟨.int (nI ks.length), ?I1, J, ks ++ [0], sl + 5, ?I2, J, ?_, ?_, ?_⟩
      case refine_1 =>
        simp only [r49_0, r49_1, r49_2, r49_5, r49_8, r49_9, r49_10, r49_11, r49_14, r49_16, r49_19, r49_21, r49_22, r49_23, r49_26, r49_27, r49_28, r49_29, r49_30, r49_33, r49_36, Option.bind_some, Option.toList_some, Option.toList_none, List.cons_append, List.nil_append, mj_rfs, mj_rfn, if_true, if_false, not_true_eq_false, not_false_eq_true, true_or, or_true, mj_b_0, mj_b_1, mj_b_01, Decidable.not_not, and_self, and_true, true_and, and_false, false_and, or_false, false_or, or_self, c0_cls, c0_rows, c0_texts, c0_pages, c0_machines, c0_refusals, c0_findingTimes, c0_triedPlan, c0_triedHeld, c0_made, c0_pageCount, c0_day, c0_latestFinding, c0_latestAsked, c0_latestUpper, c0_latestLower, c_isRow, c_isText, c_isMachine, c_isFile, c_isSet, c_isWhy, c_isHarm, c_isWrites, c_isHead, c_max, c_min, c_found1, c_found2, c_found3, c_found4, c_found5, Int32.lt_iff_toInt_lt, Int32.le_iff_toInt_le, ti_m99, ti_m9, ti_m4, ti_m3, ti_m2, ti_m1, ti_0, ti_1, ti_2, ti_3, ti_4, ti_5, ti_6, ti_7, ti_8, ti_9, ti_10, ti_11, ti_16, ti_20, ti_30, ti_32, ti_35, ti_40, ti_63, ti_64, ti_72, ti_76, ti_78, ti_82, ti_84, ti_99, ti_100, ti_111, ti_119, ti_125, ti_160, ti_200, ti_240, ti_256, ti_400, ti_999, ti_1000, ti_1024, h0, hn, nI_t (show ks.length < 2 ^ 31 by omega), show ((ks.length : Int) < 40) by omega, hx_n0, hx_l0, c_Page_init (show mj_has 4 0 = true by decide) (show mj_has 4 1 = true by decide) (show mj_has 4 2 = true by decide), D, c_keep' hn hl (show 0 ≤ 5 by omega), ks_len]
        rfl
      case refine_2 =>
        simp only [r148_0, r148_1, r148_2, r148_5, r148_8, r148_9, r148_10, r148_11, r148_14, r148_16, r148_19, r148_21, r148_24, r148_25, r148_26, r148_27, r148_28, r148_31, Option.bind_some, Option.toList_some, Option.toList_none, List.cons_append, List.nil_append, mj_rfs, mj_rfn, if_true, if_false, not_true_eq_false, not_false_eq_true, true_or, or_true, mj_b_0, mj_b_1, mj_b_01, Decidable.not_not, and_self, and_true, true_and, and_false, false_and, or_false, false_or, or_self, m51_cls, m51_places, m51_rowSize, m51_bytes, m51_textSize, m51_today, m51_pages, m51_kind, m51_number, m51_till, m51_signed, m51_keys, m51_many, m51_sums, m51_lends, m51_names, m51_alsoNames, m51_has, m51_isThere, m51_order, m51_steps, m51_looksAtNumbers, m51_looksAtDays, m51_hasTwo, m51_took, m51_runs, m51_refusals, m51_asked, m51_upper, m51_lower, m51_finding, m51_findings, m51_letters, m51_lettersMany, m51_looks, m51_copies, m51_kept, m51_four, m51_h, d_in, i64, d_tell, d_isMade, d_find1, d_find2, d_find3, d_find4, d_find5, tl_m99, tl_m1, tl_0, tl_1, tl_3, tl_4, tl_5, tl_6, tl_7, tl_9, tl_10, tl_17, tl_31, tl_40, tl_99, tl_999, tl_1023, Int32.lt_iff_toInt_lt, Int32.le_iff_toInt_le, ti_m99, ti_m9, ti_m4, ti_m3, ti_m2, ti_m1, ti_0, ti_1, ti_2, ti_3, ti_4, ti_5, ti_6, ti_7, ti_8, ti_9, ti_10, ti_11, ti_16, ti_20, ti_30, ti_32, ti_35, ti_40, ti_63, ti_64, ti_72, ti_76, ti_78, ti_82, ti_84, ti_99, ti_100, ti_111, ti_119, ti_125, ti_160, ti_200, ti_240, ti_256, ti_400, ti_999, ti_1000, ti_1024, h0, vkeep_lo (I := I) (show 51 < 1000 + 4 * ks.length by omega) (show 51 ≠ 0 by omega), hn', z1, ks_len, d_page' (p := ks.length) hl hn']
        rfl
      refine inv_kept (k := 0) (a := a) (b := b) (F0 := upd (upd (upd (fun _ => 0) 0 0) 1 a) 2 b) (F1 := fun _ => 0) (F2 := fun _ => 0) hI hl (by omega) (by omega) h0.1 ⟨rfl, rfl, rfl, rfl, rfl⟩ (fun id _ => rfl) ?_ ?_ ?_ (fun h => absurd h (by omega)) (fun h => absurd h (by omega)) (fun h => absurd h (by omega)) (fun h => absurd h (by omega))
      · intro p hp
        unfold vpage
        simp (disch := omega) only [va_up_ne, va_up_self, upd_ne, vkeep_lo, and_self]
      · intro x hx
        unfold vpage
        simp (disch := omega) only [va_up_ne, va_up_self, vkeep_lo, and_self]
      · intro x hx
        unfold vpage
        simp (disch := omega) only [va_up_ne, va_up_self, vkeep_lo]
        rw [if_neg (by omega)]
  · refine ⟨.int (-1), I, J, ks, sl, I, J, ?_, ?_, hI⟩
    · simp only [r49_0, r49_1, r49_2, r49_5, r49_8, r49_9, r49_10, r49_11, r49_14, r49_16, r49_19, r49_21, r49_22, r49_23, r49_26, r49_27, r49_28, r49_29, r49_30, r49_33, r49_36, Option.bind_some, Option.toList_some, Option.toList_none, List.cons_append, List.nil_append, mj_rfs, mj_rfn, if_true, if_false, not_true_eq_false, not_false_eq_true, true_or, or_true, mj_b_0, mj_b_1, mj_b_01, Decidable.not_not, and_self, and_true, true_and, and_false, false_and, or_false, false_or, or_self, c0_cls, c0_rows, c0_texts, c0_pages, c0_machines, c0_refusals, c0_findingTimes, c0_triedPlan, c0_triedHeld, c0_made, c0_pageCount, c0_day, c0_latestFinding, c0_latestAsked, c0_latestUpper, c0_latestLower, c_isRow, c_isText, c_isMachine, c_isFile, c_isSet, c_isWhy, c_isHarm, c_isWrites, c_isHead, c_max, c_min, c_found1, c_found2, c_found3, c_found4, c_found5, Int32.lt_iff_toInt_lt, Int32.le_iff_toInt_le, ti_m99, ti_m9, ti_m4, ti_m3, ti_m2, ti_m1, ti_0, ti_1, ti_2, ti_3, ti_4, ti_5, ti_6, ti_7, ti_8, ti_9, ti_10, ti_11, ti_16, ti_20, ti_30, ti_32, ti_35, ti_40, ti_63, ti_64, ti_72, ti_76, ti_78, ti_82, ti_84, ti_99, ti_100, ti_111, ti_119, ti_125, ti_160, ti_200, ti_240, ti_256, ti_400, ti_999, ti_1000, ti_1024, h0]
    · simp only [r148_0, r148_1, r148_2, r148_5, r148_8, r148_9, r148_10, r148_11, r148_14, r148_16, r148_19, r148_21, r148_24, r148_25, r148_26, r148_27, r148_28, r148_31, Option.bind_some, Option.toList_some, Option.toList_none, List.cons_append, List.nil_append, mj_rfs, mj_rfn, if_true, if_false, not_true_eq_false, not_false_eq_true, true_or, or_true, mj_b_0, mj_b_1, mj_b_01, Decidable.not_not, and_self, and_true, true_and, and_false, false_and, or_false, false_or, or_self, m51_cls, m51_places, m51_rowSize, m51_bytes, m51_textSize, m51_today, m51_pages, m51_kind, m51_number, m51_till, m51_signed, m51_keys, m51_many, m51_sums, m51_lends, m51_names, m51_alsoNames, m51_has, m51_isThere, m51_order, m51_steps, m51_looksAtNumbers, m51_looksAtDays, m51_hasTwo, m51_took, m51_runs, m51_refusals, m51_asked, m51_upper, m51_lower, m51_finding, m51_findings, m51_letters, m51_lettersMany, m51_looks, m51_copies, m51_kept, m51_four, m51_h, d_in, i64, d_tell, d_isMade, d_find1, d_find2, d_find3, d_find4, d_find5, tl_m99, tl_m1, tl_0, tl_1, tl_3, tl_4, tl_5, tl_6, tl_7, tl_9, tl_10, tl_17, tl_31, tl_40, tl_99, tl_999, tl_1023, Int32.lt_iff_toInt_lt, Int32.le_iff_toInt_le, ti_m99, ti_m9, ti_m4, ti_m3, ti_m2, ti_m1, ti_0, ti_1, ti_2, ti_3, ti_4, ti_5, ti_6, ti_7, ti_8, ti_9, ti_10, ti_11, ti_16, ti_20, ti_30, ti_32, ti_35, ti_40, ti_63, ti_64, ti_72, ti_76, ti_78, ti_82, ti_84, ti_99, ti_100, ti_111, ti_119, ti_125, ti_160, ti_200, ti_240, ti_256, ti_400, ti_999, ti_1000, ti_1024, h0]
