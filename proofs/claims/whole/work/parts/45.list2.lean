/-! promise 13: list, what is made -/
section LS
variable {V : mj_V} {I : hq_I} {J : hq_J} {ks : List Nat} {q sl r ci : Nat} {f : Nat → Value} {a1 a2 a3 a5 : Option Value}
theorem l_cls1 (h6 : f 6 = .ref (V.1 + (hq_pa ks ks.length + 1))) (hci : mj_has ci 6 = true) : ∀ (d i : Nat) (K : Nat → Int32), i + d = 10 → ∀ a7 : Option Value, mj_ev V 4 35 [some (.ref (V.1 + hq_pa ks ks.length)), a1, a2, a3, some (.ref (V.1 + (11 + 2 * r))), a5, some (.int (nI i)), a7] [] (hx V I J ks q sl [.inr (ci, f), .inl (0, 10, .inl K)]) = mj_ev V 4 60 [some (.ref (V.1 + hq_pa ks ks.length)), a1, a2, a3, some (.ref (V.1 + (11 + 2 * r))), a5, some (.int 0), a7] [] (hx V I J ks q sl [.inr (ci, f), .inl (0, 10, .inl (fun j => if i ≤ j ∧ j < 10 then -9 else K j))])
  | 0, i, K, hi, a7 => by
    obtain rfl : i = 10 := by omega
    rw [r4_35]
    simp only [r4_0, r4_1, r4_2, r4_3, r4_4, r4_7, r4_8, r4_10, r4_12, r4_15, r4_16, r4_18, r4_21, r4_22, r4_22n, r4_24, r4_27, r4_28, r4_29, r4_32, r4_33, r4_37, r4_39, r4_42, r4_43, r4_46, r4_48, r4_50, r4_51, r4_54, r4_57, r4_58, r4_62, r4_63, r4_64, r4_64n, r4_66, r4_69, r4_72, r4_72n, r4_74, r4_77, r4_79, r4_80, r4_82, r4_84, r4_87, r4_89, r4_91, r4_94, r4_95, r4_98, r4_100, r4_100n, r4_102, r4_105, r4_107, r4_108, r4_109, r4_110, r4_111, r4_114, r4_117, Option.bind_some, Option.toList_some, Option.toList_none, List.cons_append, List.nil_append, mj_rfs, mj_rfn, if_true, if_false, not_true_eq_false, not_false_eq_true, true_or, or_true, mj_b_0, mj_b_1, mj_b_01, Decidable.not_not, and_self, and_true, true_and, and_false, false_and, or_false, false_or, or_self, c0_cls, c0_rows, c0_texts, c0_pages, c0_machines, c0_refusals, c0_findingTimes, c0_triedPlan, c0_triedHeld, c0_made, c0_pageCount, c0_day, c0_latestFinding, c0_latestAsked, c0_latestUpper, c0_latestLower, c_isRow, c_isText, c_isMachine, c_isFile, c_isSet, c_isWhy, c_isHarm, c_isWrites, c_isHead, c_max, c_min, c_found1, c_found2, c_found3, c_found4, c_found5, Int32.lt_iff_toInt_lt, Int32.le_iff_toInt_le, ti_m99, ti_m9, ti_m4, ti_m3, ti_m2, ti_m1, ti_0, ti_1, ti_2, ti_3, ti_4, ti_5, ti_6, ti_7, ti_8, ti_9, ti_10, ti_11, ti_16, ti_20, ti_30, ti_32, ti_35, ti_40, ti_63, ti_64, ti_72, ti_76, ti_78, ti_82, ti_84, ti_99, ti_100, ti_111, ti_119, ti_125, ti_160, ti_200, ti_240, ti_256, ti_400, ti_999, ti_1000, ti_1024, show (10 : Int) ≤ (nI 10).toInt by decide]
    have e0 : (fun j => if 10 ≤ j ∧ j < 10 then -9 else K j) = K := by
      funext x
      rw [if_neg (by omega)]
    rw [e0]
  | d + 1, i, K, hi, a7 => by
    rw [r4_35]
    simp only [r4_0, r4_1, r4_2, r4_3, r4_4, r4_7, r4_8, r4_10, r4_12, r4_15, r4_16, r4_18, r4_21, r4_22, r4_22n, r4_24, r4_27, r4_28, r4_29, r4_32, r4_33, r4_37, r4_39, r4_42, r4_43, r4_46, r4_48, r4_50, r4_51, r4_54, r4_57, r4_58, r4_62, r4_63, r4_64, r4_64n, r4_66, r4_69, r4_72, r4_72n, r4_74, r4_77, r4_79, r4_80, r4_82, r4_84, r4_87, r4_89, r4_91, r4_94, r4_95, r4_98, r4_100, r4_100n, r4_102, r4_105, r4_107, r4_108, r4_109, r4_110, r4_111, r4_114, r4_117, Option.bind_some, Option.toList_some, Option.toList_none, List.cons_append, List.nil_append, mj_rfs, mj_rfn, if_true, if_false, not_true_eq_false, not_false_eq_true, true_or, or_true, mj_b_0, mj_b_1, mj_b_01, Decidable.not_not, and_self, and_true, true_and, and_false, false_and, or_false, false_or, or_self, c0_cls, c0_rows, c0_texts, c0_pages, c0_machines, c0_refusals, c0_findingTimes, c0_triedPlan, c0_triedHeld, c0_made, c0_pageCount, c0_day, c0_latestFinding, c0_latestAsked, c0_latestUpper, c0_latestLower, c_isRow, c_isText, c_isMachine, c_isFile, c_isSet, c_isWhy, c_isHarm, c_isWrites, c_isHead, c_max, c_min, c_found1, c_found2, c_found3, c_found4, c_found5, Int32.lt_iff_toInt_lt, Int32.le_iff_toInt_le, ti_m99, ti_m9, ti_m4, ti_m3, ti_m2, ti_m1, ti_0, ti_1, ti_2, ti_3, ti_4, ti_5, ti_6, ti_7, ti_8, ti_9, ti_10, ti_11, ti_16, ti_20, ti_30, ti_32, ti_35, ti_40, ti_63, ti_64, ti_72, ti_76, ti_78, ti_82, ti_84, ti_99, ti_100, ti_111, ti_119, ti_125, ti_160, ti_200, ti_240, ti_256, ti_400, ti_999, ti_1000, ti_1024, nI_t (show i < 2 ^ 31 by omega), show ¬ ((10 : Int) ≤ (i : Int)) by omega, hx_fld hci, h6, hx_ias1 rfl (show i < 10 by omega) (show 10 < 2 ^ 31 by omega), nI_1]
    rw [l_cls1 h6 hci d (i + 1) _ (by omega)]
    have e0 : (fun j => if i + 1 ≤ j ∧ j < 10 then -9 else upd K i (-9) j) = (fun j => if i ≤ j ∧ j < 10 then -9 else K j) := by
      funext j
      simp only [upd_a]
      by_cases h1 : j = i
      · subst h1
        rw [if_neg (by omega), if_pos rfl, if_pos (by omega)]
      · by_cases h2 : i + 1 ≤ j ∧ j < 10
        · rw [if_pos h2, if_pos (by omega)]
        · rw [if_neg h2, if_neg h1, if_neg (by omega)]
    rw [e0]
theorem l_cls2 {m : Nat} {K : Nat → Int32} (hr : r < 6) (hm : m ≤ 20) (hs : I (11 + 2 * r) 21 = nI (2 * m)) (h6 : f 6 = .ref (V.1 + (hq_pa ks ks.length + 1))) (hci : mj_has ci 6 = true) (h : ∀ j, j < m → vlc (I (12 + 2 * r)) j) : ∀ (d i : Nat), i + d = m → ∀ a7 : Option Value, mj_ev V 4 60 [some (.ref (V.1 + hq_pa ks ks.length)), a1, a2, a3, some (.ref (V.1 + (11 + 2 * r))), a5, some (.int (nI (2 * i))), a7] [] (hx V I J ks q sl [.inr (ci, f), .inl (0, 10, .inl (vput (I (12 + 2 * r)) i K))]) = some (none, hx V I J ks q sl [.inr (ci, f), .inl (0, 10, .inl (vput (I (12 + 2 * r)) m K))])
  | 0, i, hi, a7 => by
    obtain rfl : i = m := by omega
    rw [r4_60]
    simp only [r4_0, r4_1, r4_2, r4_3, r4_4, r4_7, r4_8, r4_10, r4_12, r4_15, r4_16, r4_18, r4_21, r4_22, r4_22n, r4_24, r4_27, r4_28, r4_29, r4_32, r4_33, r4_37, r4_39, r4_42, r4_43, r4_46, r4_48, r4_50, r4_51, r4_54, r4_57, r4_58, r4_62, r4_63, r4_64, r4_64n, r4_66, r4_69, r4_72, r4_72n, r4_74, r4_77, r4_79, r4_80, r4_82, r4_84, r4_87, r4_89, r4_91, r4_94, r4_95, r4_98, r4_100, r4_100n, r4_102, r4_105, r4_107, r4_108, r4_109, r4_110, r4_111, r4_114, r4_117, Option.bind_some, Option.toList_some, Option.toList_none, List.cons_append, List.nil_append, mj_rfs, mj_rfn, if_true, if_false, not_true_eq_false, not_false_eq_true, true_or, or_true, mj_b_0, mj_b_1, mj_b_01, Decidable.not_not, and_self, and_true, true_and, and_false, false_and, or_false, false_or, or_self, c0_cls, c0_rows, c0_texts, c0_pages, c0_machines, c0_refusals, c0_findingTimes, c0_triedPlan, c0_triedHeld, c0_made, c0_pageCount, c0_day, c0_latestFinding, c0_latestAsked, c0_latestUpper, c0_latestLower, c_isRow, c_isText, c_isMachine, c_isFile, c_isSet, c_isWhy, c_isHarm, c_isWrites, c_isHead, c_max, c_min, c_found1, c_found2, c_found3, c_found4, c_found5, Int32.lt_iff_toInt_lt, Int32.le_iff_toInt_le, ti_m99, ti_m9, ti_m4, ti_m3, ti_m2, ti_m1, ti_0, ti_1, ti_2, ti_3, ti_4, ti_5, ti_6, ti_7, ti_8, ti_9, ti_10, ti_11, ti_16, ti_20, ti_30, ti_32, ti_35, ti_40, ti_63, ti_64, ti_72, ti_76, ti_78, ti_82, ti_84, ti_99, ti_100, ti_111, ti_119, ti_125, ti_160, ti_200, ti_240, ti_256, ti_400, ti_999, ti_1000, ti_1024, hx_lowf (show 11 + 2 * r < 81 by omega), rw_size hr, hs, nI_1', nI_t (show 2 * i + 1 < 2 ^ 31 by omega), nI_t (show 2 * i < 2 ^ 31 by omega), show (((2 * i : Nat) : Int) ≤ ((2 * i + 1 : Nat) : Int)) by omega]
  | d + 1, i, hi, a7 => by
    obtain ⟨h1, h2, h3, h4⟩ := h i (by omega)
    obtain ⟨e1, e2⟩ := vfl_eq h1
    rw [e1] at h1
    rw [r4_60]
    simp only [r4_0, r4_1, r4_2, r4_3, r4_4, r4_7, r4_8, r4_10, r4_12, r4_15, r4_16, r4_18, r4_21, r4_22, r4_22n, r4_24, r4_27, r4_28, r4_29, r4_32, r4_33, r4_37, r4_39, r4_42, r4_43, r4_46, r4_48, r4_50, r4_51, r4_54, r4_57, r4_58, r4_62, r4_63, r4_64, r4_64n, r4_66, r4_69, r4_72, r4_72n, r4_74, r4_77, r4_79, r4_80, r4_82, r4_84, r4_87, r4_89, r4_91, r4_94, r4_95, r4_98, r4_100, r4_100n, r4_102, r4_105, r4_107, r4_108, r4_109, r4_110, r4_111, r4_114, r4_117, Option.bind_some, Option.toList_some, Option.toList_none, List.cons_append, List.nil_append, mj_rfs, mj_rfn, if_true, if_false, not_true_eq_false, not_false_eq_true, true_or, or_true, mj_b_0, mj_b_1, mj_b_01, Decidable.not_not, and_self, and_true, true_and, and_false, false_and, or_false, false_or, or_self, c0_cls, c0_rows, c0_texts, c0_pages, c0_machines, c0_refusals, c0_findingTimes, c0_triedPlan, c0_triedHeld, c0_made, c0_pageCount, c0_day, c0_latestFinding, c0_latestAsked, c0_latestUpper, c0_latestLower, c_isRow, c_isText, c_isMachine, c_isFile, c_isSet, c_isWhy, c_isHarm, c_isWrites, c_isHead, c_max, c_min, c_found1, c_found2, c_found3, c_found4, c_found5, Int32.lt_iff_toInt_lt, Int32.le_iff_toInt_le, ti_m99, ti_m9, ti_m4, ti_m3, ti_m2, ti_m1, ti_0, ti_1, ti_2, ti_3, ti_4, ti_5, ti_6, ti_7, ti_8, ti_9, ti_10, ti_11, ti_16, ti_20, ti_30, ti_32, ti_35, ti_40, ti_63, ti_64, ti_72, ti_76, ti_78, ti_82, ti_84, ti_99, ti_100, ti_111, ti_119, ti_125, ti_160, ti_200, ti_240, ti_256, ti_400, ti_999, ti_1000, ti_1024, hx_lowf (show 11 + 2 * r < 81 by omega), rw_size hr, hs, nI_1', nI_t (show 2 * i + 1 < 2 ^ 31 by omega), nI_t (show 2 * m < 2 ^ 31 by omega), show ¬ (((2 * m : Nat) : Int) ≤ ((2 * i + 1 : Nat) : Int)) by omega, rw_places hr, hx_lowi (show 12 + 2 * r < 81 by omega), rp_l hr rfl (show 2 * i < 40 by omega), rp_l hr rfl (show 2 * i + 1 < 40 by omega), e1, show ¬ ((nI (vfl (I (12 + 2 * r)) i)).toInt < 0) by omega, show ¬ (10 ≤ (nI (vfl (I (12 + 2 * r)) i)).toInt) by omega, hx_fld hci, h6, hx_ias1 rfl e2 (show 10 < 2 ^ 31 by omega), nI_2']
    exact l_cls2 hr hm hs h6 hci h d (i + 1) (by omega) _
end LS
theorem l_dput {V : mj_V} {I : hq_I} {J : hq_J} {ks : List Nat} {q sl : Nat} {r m p : Nat} {f g : Nat → Int32} {a1 a2 a4 a5 a6 : Option Value} (hr : r < 6) (hm : m ≤ 20) (hp0 : p < 40) (hs : I 53 r = nI (2 * m)) (hf : ∀ x, x < 2 * m → I 52 (40 * r + x) = f x) (h : ∀ j, j < m → vlc f j) : ∀ (d i : Nat), i + d = m → ∃ a8 : Option Value, mj_ev V 151 211 [some (.ref (V.1 + 51)), a1, a2, some (.int (nI r)), a4, a5, a6, some (.int (nI p)), some (.int (nI (2 * i)))] [] (hp V (va_up I 62 (fun x => if 10 * p ≤ x ∧ x < 10 * p + 10 then vput f i (fun _ => -9) (x - 10 * p) else g x)) J ks q sl) = mj_ev V 151 265 [some (.ref (V.1 + 51)), a1, a2, some (.int (nI r)), a4, a5, a6, some (.int (nI p)), a8] [] (hp V (va_up I 62 (fun x => if 10 * p ≤ x ∧ x < 10 * p + 10 then vput f m (fun _ => -9) (x - 10 * p) else g x)) J ks q sl)
  | 0, i, hi => by
    obtain rfl : i = m := by omega
    refine ⟨some (.int (nI (2 * i))), ?_⟩
    rw [r151_211]
    simp only [r151_0, r151_1, r151_2, r151_5, r151_8, r151_9, r151_10, r151_11, r151_14, r151_17, r151_20, r151_22, r151_23, r151_24, r151_26, r151_29, r151_30, r151_33, r151_36, r151_39, r151_42, r151_43, r151_44, r151_45, r151_48, r151_50, r151_53, r151_55, r151_56, r151_57, r151_60, r151_61, r151_62, r151_65, r151_66, r151_67, r151_70, r151_71, r151_72, r151_75, r151_76, r151_77, r151_78, r151_79, r151_80, r151_83, r151_84, r151_85, r151_88, r151_89, r151_90, r151_92, r151_93, r151_97, r151_98, r151_101, r151_102, r151_103, r151_106, r151_107, r151_110, r151_112, r151_113, r151_114, r151_116, r151_117, r151_118, r151_120, r151_122, r151_123, r151_124, r151_127, r151_130, r151_133, r151_135, r151_137, r151_138, r151_139, r151_140, r151_141, r151_144, r151_145, r151_148, r151_150, r151_151, r151_152, r151_154, r151_155, r151_156, r151_157, r151_158, r151_159, r151_160, r151_163, r151_166, r151_169, r151_170, r151_171, r151_174, r151_175, r151_177, r151_178, r151_180, r151_181, r151_182, r151_184, r151_187, r151_191, r151_193, r151_196, r151_197, r151_197n, r151_200, r151_201, r151_202, r151_203, r151_206, r151_208, r151_209, r151_213, r151_214, r151_217, r151_218, r151_219, r151_222, r151_223, r151_226, r151_228, r151_230, r151_231, r151_232, r151_235, r151_237, r151_238, r151_239, r151_241, r151_242, r151_243, r151_244, r151_245, r151_248, r151_250, r151_251, r151_252, r151_254, r151_255, r151_256, r151_257, r151_258, r151_259, r151_262, r151_266, r151_269, r151_271, r151_273, r151_274, r151_276, Option.bind_some, Option.toList_some, Option.toList_none, List.cons_append, List.nil_append, mj_rfs, mj_rfn, if_true, if_false, not_true_eq_false, not_false_eq_true, true_or, or_true, mj_b_0, mj_b_1, mj_b_01, Decidable.not_not, and_self, and_true, true_and, and_false, false_and, or_false, false_or, or_self, m51_cls, m51_places, m51_rowSize, m51_bytes, m51_textSize, m51_today, m51_pages, m51_kind, m51_number, m51_till, m51_signed, m51_keys, m51_many, m51_sums, m51_lends, m51_names, m51_alsoNames, m51_has, m51_isThere, m51_order, m51_steps, m51_looksAtNumbers, m51_looksAtDays, m51_hasTwo, m51_took, m51_runs, m51_refusals, m51_asked, m51_upper, m51_lower, m51_finding, m51_findings, m51_letters, m51_lettersMany, m51_looks, m51_copies, m51_kept, m51_four, m51_h, d_in, i64, d_tell, d_isMade, d_find1, d_find2, d_find3, d_find4, d_find5, tl_m99, tl_m1, tl_0, tl_1, tl_3, tl_4, tl_5, tl_6, tl_7, tl_9, tl_10, tl_17, tl_31, tl_40, tl_99, tl_999, tl_1023, Int32.lt_iff_toInt_lt, Int32.le_iff_toInt_le, ti_m99, ti_m9, ti_m4, ti_m3, ti_m2, ti_m1, ti_0, ti_1, ti_2, ti_3, ti_4, ti_5, ti_6, ti_7, ti_8, ti_9, ti_10, ti_11, ti_16, ti_20, ti_30, ti_32, ti_35, ti_40, ti_63, ti_64, ti_72, ti_76, ti_78, ti_82, ti_84, ti_99, ti_100, ti_111, ti_119, ti_125, ti_160, ti_200, ti_240, ti_256, ti_400, ti_999, ti_1000, ti_1024, a53_l rfl hr, va_up_ne _ _ (show 53 ≠ 62 by omega), hs, Int.le_refl]
  | d + 1, i, hi => by
    obtain ⟨h1, h2, h3⟩ := h i (by omega)
    obtain ⟨e1, e2⟩ := vfl_eq h1
    obtain ⟨a8, e⟩ := l_dput (V := V) (J := J) (ks := ks) (q := q) (sl := sl) (g := g) (a1 := a1) (a2 := a2) (a4 := a4) (a5 := a5) (a6 := a6) hr hm hp0 hs hf h d (i + 1) (by omega)
    refine ⟨a8, ?_⟩
    rw [← e, r151_211]
    simp only [r151_0, r151_1, r151_2, r151_5, r151_8, r151_9, r151_10, r151_11, r151_14, r151_17, r151_20, r151_22, r151_23, r151_24, r151_26, r151_29, r151_30, r151_33, r151_36, r151_39, r151_42, r151_43, r151_44, r151_45, r151_48, r151_50, r151_53, r151_55, r151_56, r151_57, r151_60, r151_61, r151_62, r151_65, r151_66, r151_67, r151_70, r151_71, r151_72, r151_75, r151_76, r151_77, r151_78, r151_79, r151_80, r151_83, r151_84, r151_85, r151_88, r151_89, r151_90, r151_92, r151_93, r151_97, r151_98, r151_101, r151_102, r151_103, r151_106, r151_107, r151_110, r151_112, r151_113, r151_114, r151_116, r151_117, r151_118, r151_120, r151_122, r151_123, r151_124, r151_127, r151_130, r151_133, r151_135, r151_137, r151_138, r151_139, r151_140, r151_141, r151_144, r151_145, r151_148, r151_150, r151_151, r151_152, r151_154, r151_155, r151_156, r151_157, r151_158, r151_159, r151_160, r151_163, r151_166, r151_169, r151_170, r151_171, r151_174, r151_175, r151_177, r151_178, r151_180, r151_181, r151_182, r151_184, r151_187, r151_191, r151_193, r151_196, r151_197, r151_197n, r151_200, r151_201, r151_202, r151_203, r151_206, r151_208, r151_209, r151_213, r151_214, r151_217, r151_218, r151_219, r151_222, r151_223, r151_226, r151_228, r151_230, r151_231, r151_232, r151_235, r151_237, r151_238, r151_239, r151_241, r151_242, r151_243, r151_244, r151_245, r151_248, r151_250, r151_251, r151_252, r151_254, r151_255, r151_256, r151_257, r151_258, r151_259, r151_262, r151_266, r151_269, r151_271, r151_273, r151_274, r151_276, Option.bind_some, Option.toList_some, Option.toList_none, List.cons_append, List.nil_append, mj_rfs, mj_rfn, if_true, if_false, not_true_eq_false, not_false_eq_true, true_or, or_true, mj_b_0, mj_b_1, mj_b_01, Decidable.not_not, and_self, and_true, true_and, and_false, false_and, or_false, false_or, or_self, m51_cls, m51_places, m51_rowSize, m51_bytes, m51_textSize, m51_today, m51_pages, m51_kind, m51_number, m51_till, m51_signed, m51_keys, m51_many, m51_sums, m51_lends, m51_names, m51_alsoNames, m51_has, m51_isThere, m51_order, m51_steps, m51_looksAtNumbers, m51_looksAtDays, m51_hasTwo, m51_took, m51_runs, m51_refusals, m51_asked, m51_upper, m51_lower, m51_finding, m51_findings, m51_letters, m51_lettersMany, m51_looks, m51_copies, m51_kept, m51_four, m51_h, d_in, i64, d_tell, d_isMade, d_find1, d_find2, d_find3, d_find4, d_find5, tl_m99, tl_m1, tl_0, tl_1, tl_3, tl_4, tl_5, tl_6, tl_7, tl_9, tl_10, tl_17, tl_31, tl_40, tl_99, tl_999, tl_1023, Int32.lt_iff_toInt_lt, Int32.le_iff_toInt_le, ti_m99, ti_m9, ti_m4, ti_m3, ti_m2, ti_m1, ti_0, ti_1, ti_2, ti_3, ti_4, ti_5, ti_6, ti_7, ti_8, ti_9, ti_10, ti_11, ti_16, ti_20, ti_30, ti_32, ti_35, ti_40, ti_63, ti_64, ti_72, ti_76, ti_78, ti_82, ti_84, ti_99, ti_100, ti_111, ti_119, ti_125, ti_160, ti_200, ti_240, ti_256, ti_400, ti_999, ti_1000, ti_1024, a53_l rfl hr, va_up_ne _ _ (show 53 ≠ 62 by omega), va_up_ne _ _ (show 52 ≠ 62 by omega), hs, nI_t (show 2 * i < 2 ^ 31 by omega), nI_t (show 2 * m < 2 ^ 31 by omega), show ¬ (((2 * m : Nat) : Int) ≤ ((2 * i : Nat) : Int)) by omega, a52_l (ix40 r (2 * i)) (show 40 * r + 2 * i < 240 by omega), a52_l (ix40c r (2 * i)) (show 40 * r + 2 * i + 1 < 240 by omega), hf (2 * i) (by omega), show I 52 (40 * r + 2 * i + 1) = f (2 * i + 1) from hf (2 * i + 1) (by omega), e1, a62_s (ix10 p (vfl f i)) (show 10 * p + vfl f i < 400 by omega), nI_2', va_up_up, va_up_self]
    congr 2
    apply congrArg
    funext x
    simp only [upd_a, vput]
    by_cases g1 : x = 10 * p + vfl f i
    · subst g1
      rw [if_pos rfl, if_pos (by omega), if_pos (by omega)]
    · rw [if_neg g1]
      by_cases g2 : 10 * p ≤ x ∧ x < 10 * p + 10
      · rw [if_pos g2, if_pos g2, if_neg (by omega)]
      · rw [if_neg g2, if_neg g2]
theorem vput_cg {f F G : Nat → Int32} {j : Nat} (h : F j = G j) : ∀ i, vput f i F j = vput f i G j
  | 0 => h
  | i + 1 => by
    simp only [vput, upd_a, vput_cg h i]
theorem vput_S {f F : Nat → Int32} {j : Nat} : ∀ i, (∀ j, j < i → vlc f j) → F j = -9 → vS (vput f i F j)
  | 0, _, h => Or.inl h
  | i + 1, h, hF => by
    simp only [vput, upd_a]
    by_cases g : j = vfl f i
    · rw [if_pos g]
      exact Or.inr (h i (by omega)).2.2
    · rw [if_neg g]
      exact vput_S i (fun j hj => h j (by omega)) hF
theorem vcnt_upd {F : Nat → Int32} {j : Nat} {v : Int32} (h1 : (F j).toInt < 0) (h2 : 0 ≤ v.toInt) : ∀ n, vcnt (upd F j v) n = vcnt F n + if j < n then 1 else 0
  | 0 => rfl
  | n + 1 => by
    simp only [vcnt, vcnt_upd h1 h2 n]
    by_cases g : n = j
    · subst g
      rw [upd_us, if_pos h2, if_neg (show ¬ 0 ≤ (F n).toInt by omega), if_neg (show ¬ n < n by omega), if_pos (show n < n + 1 by omega)]
    · rw [upd_ne g]
      by_cases g2 : j < n
      · rw [if_pos g2, if_pos (show j < n + 1 by omega)]
        omega
      · rw [if_neg g2, if_neg (show ¬ j < n + 1 by omega)]
        omega
theorem vcnt_neg {F : Nat → Int32} : ∀ n, (∀ j, j < n → F j = -9) → vcnt F n = 0
  | 0, _ => rfl
  | n + 1, h => by
    simp only [vcnt, vcnt_neg n (fun j hj => h j (by omega)), h n (by omega), ti_m9]
    rfl
theorem bit_or {s n j : Nat} (h : (s ||| 2 ^ n) / 2 ^ j % 2 = 0) : s / 2 ^ j % 2 = 0 ∧ j ≠ n := by
  have e : (s ||| 2 ^ n).testBit j = false := by
    rw [Nat.testBit_eq_decide_div_mod_eq, h]
    rfl
  rw [Nat.testBit_or, Bool.or_eq_false_iff, Nat.testBit_two_pow] at e
  refine ⟨?_, ?_⟩
  · have e1 := e.1
    rw [Nat.testBit_eq_decide_div_mod_eq] at e1
    have := of_decide_eq_false e1
    omega
  · intro hj
    have e2 := e.2
    rw [hj] at e2
    simp at e2
theorem vput_cnt {f F : Nat → Int32} (hF : ∀ j, j < 10 → F j = -9) : ∀ i, (∀ j, j < i → vlc f j) → (∀ j, j < 10 → vseen f i / 2 ^ j % 2 = 0 → vput f i F j = -9) ∧ vcnt (vput f i F) 10 = i
  | 0, _ => ⟨fun j hj _ => hF j hj, vcnt_neg 10 hF⟩
  | i + 1, h => by
    obtain ⟨h1, h2⟩ := vput_cnt hF i (fun j hj => h j (by omega))
    obtain ⟨c1, c2, c3, c4⟩ := h i (by omega)
    have hl := (vfl_eq c1).2
    have e := h1 _ hl c2
    refine ⟨fun j hj hb => ?_, ?_⟩
    · obtain ⟨b1, b2⟩ := bit_or hb
      simp only [vput, upd_a]
      rw [if_neg b2]
      exact h1 j hj b1
    · simp only [vput]
      rw [vcnt_upd (by rw [e, ti_m9]; omega) c3, h2, if_pos hl]
