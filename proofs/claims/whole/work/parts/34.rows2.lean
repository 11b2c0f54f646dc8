/-! promises 6 to 9: copy, mean, text, put -/
theorem ix40b (r i t : Nat) : (40 : Int32) * nI r + nI i + nI t = nI (40 * r + i + t) := by rw [ix40, nI_add]
theorem l_copyA {V : mj_V} {J : hq_J} {ks : List Nat} {q sl r i m j n : Nat} {a7 : Option Value} (hr : r < 6) (hm : m < 6) (hij : i < j) (h1 : i + n ≤ 40) (h2 : j + n ≤ 40) : ∀ (d k : Nat) (I : hq_I), k + d = n → ∀ a7 : Option Value, mj_ev V 141 114 [some (.ref (V.1 + 51)), some (.int (nI r)), some (.int (nI i)), some (.int (nI m)), some (.int (nI j)), some (.int (nI n)), some (.int (nI k)), a7] [] (hp V I J ks q sl) = some (some (.int 1), hp V (va_up I 52 (fun x => if 40 * m + j ≤ x ∧ x < 40 * m + j + d then I 52 (x - (40 * m + j) + (40 * r + i)) else I 52 x)) J ks q sl)
  | 0, k, I, hk, a7 => by
    simp only [r141_0, r141_1, r141_2, r141_3, r141_6, r141_9, r141_12, r141_13, r141_14, r141_15, r141_18, r141_21, r141_24, r141_25, r141_26, r141_28, r141_31, r141_32, r141_33, r141_36, r141_37, r141_38, r141_41, r141_42, r141_43, r141_46, r141_47, r141_50, r141_51, r141_52, r141_55, r141_56, r141_57, r141_60, r141_61, r141_62, r141_65, r141_67, r141_70, r141_71, r141_72, r141_74, r141_75, r141_76, r141_77, r141_80, r141_81, r141_82, r141_83, r141_84, r141_87, r141_89, r141_90, r141_92, r141_93, r141_94, r141_95, r141_98, r141_99, r141_100, r141_101, r141_102, r141_105, r141_106, r141_107, r141_110, r141_111, r141_112, r141_114, r141_116, r141_118, r141_121, r141_122, r141_124, r141_127, r141_129, r141_130, r141_131, r141_133, r141_134, r141_137, r141_139, r141_141, r141_142, r141_145, r141_147, r141_148, r141_149, r141_151, r141_152, r141_154, r141_155, r141_156, r141_159, r141_161, r141_162, r141_163, r141_164, r141_165, r141_167, r141_168, r141_169, r141_170, r141_173, r141_176, r141_177, Option.bind_some, Option.toList_some, Option.toList_none, List.cons_append, List.nil_append, mj_rfs, mj_rfn, if_true, if_false, not_true_eq_false, not_false_eq_true, true_or, or_true, mj_b_0, mj_b_1, mj_b_01, Decidable.not_not, and_self, and_true, true_and, and_false, false_and, or_false, false_or, or_self, m51_cls, m51_places, m51_rowSize, m51_bytes, m51_textSize, m51_today, m51_pages, m51_kind, m51_number, m51_till, m51_signed, m51_keys, m51_many, m51_sums, m51_lends, m51_names, m51_alsoNames, m51_has, m51_isThere, m51_order, m51_steps, m51_looksAtNumbers, m51_looksAtDays, m51_hasTwo, m51_took, m51_runs, m51_refusals, m51_asked, m51_upper, m51_lower, m51_finding, m51_findings, m51_letters, m51_lettersMany, m51_looks, m51_copies, m51_kept, m51_four, m51_h, d_in, i64, d_tell, d_isMade, d_find1, d_find2, d_find3, d_find4, d_find5, tl_m99, tl_m1, tl_0, tl_1, tl_3, tl_4, tl_5, tl_6, tl_7, tl_9, tl_10, tl_17, tl_31, tl_40, tl_99, tl_999, tl_1023, Int32.lt_iff_toInt_lt, Int32.le_iff_toInt_le, ti_m99, ti_m9, ti_m4, ti_m3, ti_m2, ti_m1, ti_0, ti_1, ti_2, ti_3, ti_4, ti_5, ti_6, ti_7, ti_8, ti_9, ti_10, ti_11, ti_16, ti_20, ti_30, ti_32, ti_35, ti_40, ti_63, ti_64, ti_72, ti_76, ti_78, ti_82, ti_84, ti_99, ti_100, ti_111, ti_119, ti_125, ti_160, ti_200, ti_240, ti_256, ti_400, ti_999, ti_1000, ti_1024, show (nI n).toInt ≤ (nI k).toInt by rw [nI_t (by omega), nI_t (by omega)]; omega]
    have e : (fun x => if 40 * m + j ≤ x ∧ x < 40 * m + j + 0 then I 52 (x - (40 * m + j) + (40 * r + i)) else I 52 x) = I 52 := by
      funext x
      rw [if_neg (by omega)]
    rw [e, va_up_same]
  | d + 1, k, I, hk, a7 => by
    rw [r141_114]
    have e0 : nI n - 1 - nI k = nI d := by
      rw [show (1 : Int32) = nI 1 from rfl, pk_sub (by omega), pk_sub (by omega)]
      congr 1
      omega
    simp only [r141_0, r141_1, r141_2, r141_3, r141_6, r141_9, r141_12, r141_13, r141_14, r141_15, r141_18, r141_21, r141_24, r141_25, r141_26, r141_28, r141_31, r141_32, r141_33, r141_36, r141_37, r141_38, r141_41, r141_42, r141_43, r141_46, r141_47, r141_50, r141_51, r141_52, r141_55, r141_56, r141_57, r141_60, r141_61, r141_62, r141_65, r141_67, r141_70, r141_71, r141_72, r141_74, r141_75, r141_76, r141_77, r141_80, r141_81, r141_82, r141_83, r141_84, r141_87, r141_89, r141_90, r141_92, r141_93, r141_94, r141_95, r141_98, r141_99, r141_100, r141_101, r141_102, r141_105, r141_106, r141_107, r141_110, r141_111, r141_112, r141_116, r141_118, r141_121, r141_122, r141_124, r141_127, r141_129, r141_130, r141_131, r141_133, r141_134, r141_137, r141_139, r141_141, r141_142, r141_145, r141_147, r141_148, r141_149, r141_151, r141_152, r141_154, r141_155, r141_156, r141_159, r141_161, r141_162, r141_163, r141_164, r141_165, r141_167, r141_168, r141_169, r141_170, r141_173, r141_176, r141_177, Option.bind_some, Option.toList_some, Option.toList_none, List.cons_append, List.nil_append, mj_rfs, mj_rfn, if_true, if_false, not_true_eq_false, not_false_eq_true, true_or, or_true, mj_b_0, mj_b_1, mj_b_01, Decidable.not_not, and_self, and_true, true_and, and_false, false_and, or_false, false_or, or_self, m51_cls, m51_places, m51_rowSize, m51_bytes, m51_textSize, m51_today, m51_pages, m51_kind, m51_number, m51_till, m51_signed, m51_keys, m51_many, m51_sums, m51_lends, m51_names, m51_alsoNames, m51_has, m51_isThere, m51_order, m51_steps, m51_looksAtNumbers, m51_looksAtDays, m51_hasTwo, m51_took, m51_runs, m51_refusals, m51_asked, m51_upper, m51_lower, m51_finding, m51_findings, m51_letters, m51_lettersMany, m51_looks, m51_copies, m51_kept, m51_four, m51_h, d_in, i64, d_tell, d_isMade, d_find1, d_find2, d_find3, d_find4, d_find5, tl_m99, tl_m1, tl_0, tl_1, tl_3, tl_4, tl_5, tl_6, tl_7, tl_9, tl_10, tl_17, tl_31, tl_40, tl_99, tl_999, tl_1023, Int32.lt_iff_toInt_lt, Int32.le_iff_toInt_le, ti_m99, ti_m9, ti_m4, ti_m3, ti_m2, ti_m1, ti_0, ti_1, ti_2, ti_3, ti_4, ti_5, ti_6, ti_7, ti_8, ti_9, ti_10, ti_11, ti_16, ti_20, ti_30, ti_32, ti_35, ti_40, ti_63, ti_64, ti_72, ti_76, ti_78, ti_82, ti_84, ti_99, ti_100, ti_111, ti_119, ti_125, ti_160, ti_200, ti_240, ti_256, ti_400, ti_999, ti_1000, ti_1024, nI_t (show n < 2 ^ 31 by omega), nI_t (show k < 2 ^ 31 by omega), nI_t (show i < 2 ^ 31 by omega), nI_t (show j < 2 ^ 31 by omega), show ¬ ((n : Int) ≤ (k : Int)) by omega, show ¬ ((j : Int) ≤ (i : Int)) by omega, e0, a52_l (ix40b r i d) (show 40 * r + i + d < 240 by omega), a52_s (ix40b m j d) (show 40 * m + j + d < 240 by omega), nI_1]
    rw [l_copyA hr hm hij h1 h2 d (k + 1) _ (by omega), va_up_up]
    congr 3
    apply congrArg
    funext x
    simp only [va_up_self, upd_a]
    by_cases h3 : 40 * m + j ≤ x ∧ x < 40 * m + j + d
    · rw [if_pos h3, if_pos (by omega), if_neg]
      rcases Nat.lt_trichotomy r m with h4 | h4 | h4 <;> omega
    · rw [if_neg h3]
      by_cases h4 : x = 40 * m + j + d
      · rw [if_pos h4, if_pos (by omega)]
        congr 1
        omega
      · rw [if_neg h4, if_neg (by omega)]
theorem l_copyB {V : mj_V} {J : hq_J} {ks : List Nat} {q sl r i m j n : Nat} (hr : r < 6) (hm : m < 6) (hij : j ≤ i) (h1 : i + n ≤ 40) (h2 : j + n ≤ 40) : ∀ (d k : Nat) (I : hq_I), k + d = n → ∀ a7 : Option Value, mj_ev V 141 114 [some (.ref (V.1 + 51)), some (.int (nI r)), some (.int (nI i)), some (.int (nI m)), some (.int (nI j)), some (.int (nI n)), some (.int (nI k)), a7] [] (hp V I J ks q sl) = some (some (.int 1), hp V (va_up I 52 (fun x => if 40 * m + j + k ≤ x ∧ x < 40 * m + j + n then I 52 (x - (40 * m + j) + (40 * r + i)) else I 52 x)) J ks q sl)
  | 0, k, I, hk, a7 => by
    simp only [r141_0, r141_1, r141_2, r141_3, r141_6, r141_9, r141_12, r141_13, r141_14, r141_15, r141_18, r141_21, r141_24, r141_25, r141_26, r141_28, r141_31, r141_32, r141_33, r141_36, r141_37, r141_38, r141_41, r141_42, r141_43, r141_46, r141_47, r141_50, r141_51, r141_52, r141_55, r141_56, r141_57, r141_60, r141_61, r141_62, r141_65, r141_67, r141_70, r141_71, r141_72, r141_74, r141_75, r141_76, r141_77, r141_80, r141_81, r141_82, r141_83, r141_84, r141_87, r141_89, r141_90, r141_92, r141_93, r141_94, r141_95, r141_98, r141_99, r141_100, r141_101, r141_102, r141_105, r141_106, r141_107, r141_110, r141_111, r141_112, r141_114, r141_116, r141_118, r141_121, r141_122, r141_124, r141_127, r141_129, r141_130, r141_131, r141_133, r141_134, r141_137, r141_139, r141_141, r141_142, r141_145, r141_147, r141_148, r141_149, r141_151, r141_152, r141_154, r141_155, r141_156, r141_159, r141_161, r141_162, r141_163, r141_164, r141_165, r141_167, r141_168, r141_169, r141_170, r141_173, r141_176, r141_177, Option.bind_some, Option.toList_some, Option.toList_none, List.cons_append, List.nil_append, mj_rfs, mj_rfn, if_true, if_false, not_true_eq_false, not_false_eq_true, true_or, or_true, mj_b_0, mj_b_1, mj_b_01, Decidable.not_not, and_self, and_true, true_and, and_false, false_and, or_false, false_or, or_self, m51_cls, m51_places, m51_rowSize, m51_bytes, m51_textSize, m51_today, m51_pages, m51_kind, m51_number, m51_till, m51_signed, m51_keys, m51_many, m51_sums, m51_lends, m51_names, m51_alsoNames, m51_has, m51_isThere, m51_order, m51_steps, m51_looksAtNumbers, m51_looksAtDays, m51_hasTwo, m51_took, m51_runs, m51_refusals, m51_asked, m51_upper, m51_lower, m51_finding, m51_findings, m51_letters, m51_lettersMany, m51_looks, m51_copies, m51_kept, m51_four, m51_h, d_in, i64, d_tell, d_isMade, d_find1, d_find2, d_find3, d_find4, d_find5, tl_m99, tl_m1, tl_0, tl_1, tl_3, tl_4, tl_5, tl_6, tl_7, tl_9, tl_10, tl_17, tl_31, tl_40, tl_99, tl_999, tl_1023, Int32.lt_iff_toInt_lt, Int32.le_iff_toInt_le, ti_m99, ti_m9, ti_m4, ti_m3, ti_m2, ti_m1, ti_0, ti_1, ti_2, ti_3, ti_4, ti_5, ti_6, ti_7, ti_8, ti_9, ti_10, ti_11, ti_16, ti_20, ti_30, ti_32, ti_35, ti_40, ti_63, ti_64, ti_72, ti_76, ti_78, ti_82, ti_84, ti_99, ti_100, ti_111, ti_119, ti_125, ti_160, ti_200, ti_240, ti_256, ti_400, ti_999, ti_1000, ti_1024, show (nI n).toInt ≤ (nI k).toInt by rw [nI_t (by omega), nI_t (by omega)]; omega]
    have e : (fun x => if 40 * m + j + k ≤ x ∧ x < 40 * m + j + n then I 52 (x - (40 * m + j) + (40 * r + i)) else I 52 x) = I 52 := by
      funext x
      rw [if_neg (by omega)]
    rw [e, va_up_same]
  | d + 1, k, I, hk, a7 => by
    rw [r141_114]
    simp only [r141_0, r141_1, r141_2, r141_3, r141_6, r141_9, r141_12, r141_13, r141_14, r141_15, r141_18, r141_21, r141_24, r141_25, r141_26, r141_28, r141_31, r141_32, r141_33, r141_36, r141_37, r141_38, r141_41, r141_42, r141_43, r141_46, r141_47, r141_50, r141_51, r141_52, r141_55, r141_56, r141_57, r141_60, r141_61, r141_62, r141_65, r141_67, r141_70, r141_71, r141_72, r141_74, r141_75, r141_76, r141_77, r141_80, r141_81, r141_82, r141_83, r141_84, r141_87, r141_89, r141_90, r141_92, r141_93, r141_94, r141_95, r141_98, r141_99, r141_100, r141_101, r141_102, r141_105, r141_106, r141_107, r141_110, r141_111, r141_112, r141_116, r141_118, r141_121, r141_122, r141_124, r141_127, r141_129, r141_130, r141_131, r141_133, r141_134, r141_137, r141_139, r141_141, r141_142, r141_145, r141_147, r141_148, r141_149, r141_151, r141_152, r141_154, r141_155, r141_156, r141_159, r141_161, r141_162, r141_163, r141_164, r141_165, r141_167, r141_168, r141_169, r141_170, r141_173, r141_176, r141_177, Option.bind_some, Option.toList_some, Option.toList_none, List.cons_append, List.nil_append, mj_rfs, mj_rfn, if_true, if_false, not_true_eq_false, not_false_eq_true, true_or, or_true, mj_b_0, mj_b_1, mj_b_01, Decidable.not_not, and_self, and_true, true_and, and_false, false_and, or_false, false_or, or_self, m51_cls, m51_places, m51_rowSize, m51_bytes, m51_textSize, m51_today, m51_pages, m51_kind, m51_number, m51_till, m51_signed, m51_keys, m51_many, m51_sums, m51_lends, m51_names, m51_alsoNames, m51_has, m51_isThere, m51_order, m51_steps, m51_looksAtNumbers, m51_looksAtDays, m51_hasTwo, m51_took, m51_runs, m51_refusals, m51_asked, m51_upper, m51_lower, m51_finding, m51_findings, m51_letters, m51_lettersMany, m51_looks, m51_copies, m51_kept, m51_four, m51_h, d_in, i64, d_tell, d_isMade, d_find1, d_find2, d_find3, d_find4, d_find5, tl_m99, tl_m1, tl_0, tl_1, tl_3, tl_4, tl_5, tl_6, tl_7, tl_9, tl_10, tl_17, tl_31, tl_40, tl_99, tl_999, tl_1023, Int32.lt_iff_toInt_lt, Int32.le_iff_toInt_le, ti_m99, ti_m9, ti_m4, ti_m3, ti_m2, ti_m1, ti_0, ti_1, ti_2, ti_3, ti_4, ti_5, ti_6, ti_7, ti_8, ti_9, ti_10, ti_11, ti_16, ti_20, ti_30, ti_32, ti_35, ti_40, ti_63, ti_64, ti_72, ti_76, ti_78, ti_82, ti_84, ti_99, ti_100, ti_111, ti_119, ti_125, ti_160, ti_200, ti_240, ti_256, ti_400, ti_999, ti_1000, ti_1024, nI_t (show n < 2 ^ 31 by omega), nI_t (show k < 2 ^ 31 by omega), nI_t (show i < 2 ^ 31 by omega), nI_t (show j < 2 ^ 31 by omega), show ¬ ((n : Int) ≤ (k : Int)) by omega, show ((j : Int) ≤ (i : Int)) by omega, a52_l (ix40b r i k) (show 40 * r + i + k < 240 by omega), a52_s (ix40b m j k) (show 40 * m + j + k < 240 by omega), nI_1]
    rw [l_copyB hr hm hij h1 h2 d (k + 1) _ (by omega), va_up_up]
    congr 3
    apply congrArg
    funext x
    simp only [va_up_self, upd_a]
    by_cases h3 : 40 * m + j + (k + 1) ≤ x ∧ x < 40 * m + j + n
    · rw [if_pos h3, if_pos (by omega), if_neg]
      rcases Nat.lt_trichotomy r m with h4 | h4 | h4 <;> omega
    · rw [if_neg h3]
      by_cases h4 : x = 40 * m + j + k
      · rw [if_pos h4, if_pos (by omega)]
        congr 1
        omega
      · rw [if_neg h4, if_neg (by omega)]
theorem i64_add (x y : Int32) : (x.toInt64 + y.toInt64).toInt = x.toInt + y.toInt := by
  have h1 := i32_lt x
  have h2 := i32_lt y
  rw [Int64.toInt_add, i64, i64]
  exact Int.bmod_eq_of_le (by omega) (by omega)
theorem s_copy (V : mj_V) (r i t j n : Int32) : S2 V 44 141 [some (.ref (V.1 + 0)), some (.int r), some (.int i), some (.int t), some (.int j), some (.int n), none, none] [some (.ref (V.1 + 51)), some (.int r), some (.int i), some (.int t), some (.int j), some (.int n), none, none] := by
  intro I J ks sl hI
  by_cases hr : (0 ≤ r.toInt ∧ r.toInt < 6) ∧ 0 ≤ t.toInt ∧ t.toInt < 6
  · obtain ⟨hr, ht⟩ := hr
    have hr' : 0 ≤ r.toInt ∧ r.toInt ≤ 5 := by omega
    have ht' : 0 ≤ t.toInt ∧ t.toInt ≤ 5 := by omega
    by_cases hn : 0 ≤ n.toInt
    · obtain ⟨k, hk, rfl⟩ := nI_ex (x := r) (n := 6) (by decide) (by omega)
      obtain ⟨m, hm, rfl⟩ := nI_ex (x := t) (n := 6) (by decide) (by omega)
      obtain ⟨e1, e2, e3⟩ := hI.2.2.2.1 k hk
      obtain ⟨f1, f2, f3⟩ := hI.2.2.2.1 m hm
      by_cases h0 : 0 ≤ (I (11 + 2 * k) 21).toInt ∧ 0 ≤ (I (11 + 2 * m) 21).toInt
      · obtain ⟨h0, g0⟩ := h0
        have h0' : ¬ (I (11 + 2 * k) 21).toInt < 0 := by omega
        have g0' : ¬ (I (11 + 2 * m) 21).toInt < 0 := by omega
        by_cases h1 : (0 ≤ i.toInt ∧ 0 ≤ n.toInt ∧ i.toInt + n.toInt ≤ (I (11 + 2 * k) 21).toInt) ∧ 0 ≤ j.toInt ∧ 0 ≤ n.toInt ∧ j.toInt + n.toInt ≤ (I (11 + 2 * m) 21).toInt
        · obtain ⟨h1, g1⟩ := h1
          obtain ⟨i, hi, rfl⟩ := nI_ex (x := i) (n := 41) (by decide) (by omega)
          obtain ⟨j, hj, rfl⟩ := nI_ex (x := j) (n := 41) (by decide) (by omega)
          obtain ⟨n, hn', rfl⟩ := nI_ex (x := n) (n := 41) (by decide) (by omega)
          have z1 : i + n ≤ 40 := by simp only [nI_t (show i < 2 ^ 31 by omega), nI_t (show n < 2 ^ 31 by omega)] at h1; omega
          have z2 : j + n ≤ 40 := by simp only [nI_t (show j < 2 ^ 31 by omega), nI_t (show n < 2 ^ 31 by omega)] at g1; omega
          have y1 : ¬ (nI i).toInt < 0 := by omega
          have y2 : ¬ (nI j).toInt < 0 := by omega
          have y3 : ¬ (I (11 + 2 * k) 21).toInt < (nI i).toInt + (nI n).toInt := by omega
          have y4 : (nI j).toInt + (nI n).toInt ≤ (I (11 + 2 * m) 21).toInt := by omega
          have c1 : va_up I (12 + 2 * m) (va_cpy (I (12 + 2 * k)) (I (12 + 2 * m)) i j n) 53 k = I (11 + 2 * k) 21 := by rw [va_up_ne _ _ (by omega)]; exact e1
          have c2 : va_up I (12 + 2 * m) (va_cpy (I (12 + 2 * k)) (I (12 + 2 * m)) i j n) 53 m = I (11 + 2 * m) 21 := by rw [va_up_ne _ _ (by omega)]; exact f1
          have hcl := hp_cpy (V := V) (I := I) (J := J) (ks := ks) (q := ks.length) (sl := sl) (k0 := 12 + 2 * k) (k1 := 12 + 2 * m) (n0 := 40) (n1 := 40) (sp := i) (dp := j) (n := n) (by omega) (by omega) (by rcases (show k = 0 ∨ k = 1 ∨ k = 2 ∨ k = 3 ∨ k = 4 ∨ k = 5 by omega) with rfl | rfl | rfl | rfl | rfl | rfl <;> rfl) (by rcases (show m = 0 ∨ m = 1 ∨ m = 2 ∨ m = 3 ∨ m = 4 ∨ m = 5 by omega) with rfl | rfl | rfl | rfl | rfl | rfl <;> rfl) rfl rfl rfl z1 z2 (by decide) (by decide)
          have main : ∃ I2 : hq_I, mj_ev V 141 114 [some (.ref (V.1 + 51)), some (.int (nI k)), some (.int (nI i)), some (.int (nI m)), some (.int (nI j)), some (.int (nI n)), some (.int 0), none] [] (hp V (va_up I (12 + 2 * m) (va_cpy (I (12 + 2 * k)) (I (12 + 2 * m)) i j n)) J ks ks.length sl) = some (some (.int 1), hp V I2 J ks ks.length sl) ∧ I2 = va_up (va_up I (12 + 2 * m) (va_cpy (I (12 + 2 * k)) (I (12 + 2 * m)) i j n)) 52 (fun x => if 40 * m + j ≤ x ∧ x < 40 * m + j + n then I 52 (x - (40 * m + j) + (40 * k + i)) else I 52 x) := by
            by_cases hij : i < j
            · refine ⟨_, l_copyA (a7 := none) hk hm hij z1 z2 n 0 _ (by omega) none, ?_⟩
              congr 1
              funext x
              rw [va_up_ne _ _ (by omega)]
            · refine ⟨_, l_copyB hk hm (by omega) z1 z2 n 0 _ (by omega) none, ?_⟩
              congr 1
              funext x
              rw [va_up_ne _ _ (by omega)]
              rfl
          obtain ⟨I2, hI2, hI2e⟩ := main
          refine ⟨.int 1, va_up I (12 + 2 * m) (va_cpy (I (12 + 2 * k)) (I (12 + 2 * m)) i j n), J, ks, sl, I2, J, ?_, ?_, ?_⟩
          · simp only [r44_0, r44_1, r44_4, r44_7, r44_8, r44_11, r44_14, r44_15, r44_16, r44_18, r44_21, r44_22, r44_23, r44_26, r44_27, r44_28, r44_31, r44_32, r44_33, r44_33n, r44_35, r44_36, r44_39, r44_40, r44_41, r44_41n, r44_43, r44_43n, r44_45, r44_48, r44_51, r44_51n, r44_53, r44_56, r44_59, r44_60, r44_61, r44_64, r44_65, r44_65n, r44_67, r44_68, r44_70, r44_73, r44_76, r44_76n, r44_78, r44_80, r44_82, r44_85, r44_88, r44_89, r44_90, r44_93, r44_94, r44_94n, r44_96, r44_99, r44_100, r44_100n, r44_102, r44_105, r44_107, r44_109, r44_112, r44_113, Option.bind_some, Option.toList_some, Option.toList_none, List.cons_append, List.nil_append, mj_rfs, mj_rfn, if_true, if_false, not_true_eq_false, not_false_eq_true, true_or, or_true, mj_b_0, mj_b_1, mj_b_01, Decidable.not_not, and_self, and_true, true_and, and_false, false_and, or_false, false_or, or_self, c0_cls, c0_rows, c0_texts, c0_pages, c0_machines, c0_refusals, c0_findingTimes, c0_triedPlan, c0_triedHeld, c0_made, c0_pageCount, c0_day, c0_latestFinding, c0_latestAsked, c0_latestUpper, c0_latestLower, c_isRow, c_isText, c_isMachine, c_isFile, c_isSet, c_isWhy, c_isHarm, c_isWrites, c_isHead, c_max, c_min, c_found1, c_found2, c_found3, c_found4, c_found5, Int32.lt_iff_toInt_lt, Int32.le_iff_toInt_le, ti_m99, ti_m9, ti_m4, ti_m3, ti_m2, ti_m1, ti_0, ti_1, ti_2, ti_3, ti_4, ti_5, ti_6, ti_7, ti_8, ti_9, ti_10, ti_11, ti_16, ti_20, ti_30, ti_32, ti_35, ti_40, ti_63, ti_64, ti_72, ti_76, ti_78, ti_82, ti_84, ti_99, ti_100, ti_111, ti_119, ti_125, ti_160, ti_200, ti_240, ti_256, ti_400, ti_999, ti_1000, ti_1024, hr, ht, hn, hp_rows hk rfl, hp_rows hm rfl, rw_cls hk, rw_cls hm, c_Row_isThere hk, c_Row_isThere hm, h0, g0, c_Row_hasRun hk _ _ e2, c_Row_hasRun hm _ _ f2, h1, g1, rw_places hk, rw_places hm, hcl]
          · simp only [r141_0, r141_1, r141_2, r141_3, r141_6, r141_9, r141_12, r141_13, r141_14, r141_15, r141_18, r141_21, r141_24, r141_25, r141_26, r141_28, r141_31, r141_32, r141_33, r141_36, r141_37, r141_38, r141_41, r141_42, r141_43, r141_46, r141_47, r141_50, r141_51, r141_52, r141_55, r141_56, r141_57, r141_60, r141_61, r141_62, r141_65, r141_67, r141_70, r141_71, r141_72, r141_74, r141_75, r141_76, r141_77, r141_80, r141_81, r141_82, r141_83, r141_84, r141_87, r141_89, r141_90, r141_92, r141_93, r141_94, r141_95, r141_98, r141_99, r141_100, r141_101, r141_102, r141_105, r141_106, r141_107, r141_110, r141_111, r141_112, r141_116, r141_118, r141_121, r141_122, r141_124, r141_127, r141_129, r141_130, r141_131, r141_133, r141_134, r141_137, r141_139, r141_141, r141_142, r141_145, r141_147, r141_148, r141_149, r141_151, r141_152, r141_154, r141_155, r141_156, r141_159, r141_161, r141_162, r141_163, r141_164, r141_165, r141_167, r141_168, r141_169, r141_170, r141_173, r141_176, r141_177, Option.bind_some, Option.toList_some, Option.toList_none, List.cons_append, List.nil_append, mj_rfs, mj_rfn, if_true, if_false, not_true_eq_false, not_false_eq_true, true_or, or_true, mj_b_0, mj_b_1, mj_b_01, Decidable.not_not, and_self, and_true, true_and, and_false, false_and, or_false, false_or, or_self, m51_cls, m51_places, m51_rowSize, m51_bytes, m51_textSize, m51_today, m51_pages, m51_kind, m51_number, m51_till, m51_signed, m51_keys, m51_many, m51_sums, m51_lends, m51_names, m51_alsoNames, m51_has, m51_isThere, m51_order, m51_steps, m51_looksAtNumbers, m51_looksAtDays, m51_hasTwo, m51_took, m51_runs, m51_refusals, m51_asked, m51_upper, m51_lower, m51_finding, m51_findings, m51_letters, m51_lettersMany, m51_looks, m51_copies, m51_kept, m51_four, m51_h, d_in, i64, d_tell, d_isMade, d_find1, d_find2, d_find3, d_find4, d_find5, tl_m99, tl_m1, tl_0, tl_1, tl_3, tl_4, tl_5, tl_6, tl_7, tl_9, tl_10, tl_17, tl_31, tl_40, tl_99, tl_999, tl_1023, Int32.lt_iff_toInt_lt, Int32.le_iff_toInt_le, ti_m99, ti_m9, ti_m4, ti_m3, ti_m2, ti_m1, ti_0, ti_1, ti_2, ti_3, ti_4, ti_5, ti_6, ti_7, ti_8, ti_9, ti_10, ti_11, ti_16, ti_20, ti_30, ti_32, ti_35, ti_40, ti_63, ti_64, ti_72, ti_76, ti_78, ti_82, ti_84, ti_99, ti_100, ti_111, ti_119, ti_125, ti_160, ti_200, ti_240, ti_256, ti_400, ti_999, ti_1000, ti_1024, hr', ht', hn, a53_l rfl hk, a53_l rfl hm, c1, c2, h0, h0', g0, g0', y1, y2, lgc_gt, i64_add, y3, y4]
            sorry
          · sorry
        · sorry
      · sorry
    · sorry
  · sorry
