/-! promise 24: ask -/
def vgs (f : Nat → Int32) (m p : Nat) : Nat → Nat → Int32 → Int32
  | 0, _, x => x
  | d + 1, i, x => vgs f m p d (i + 1) (if f i = nI p then vgv x m else x)
theorem vgs_no {f : Nat → Int32} {m p : Nat} (h : ∀ w, w < 5 → ¬ f w = nI p) : ∀ (d i : Nat) (x : Int32), i + d = 5 → vgs f m p d i x = x
  | 0, _, _, _ => rfl
  | d + 1, i, x, hi => by
    unfold vgs
    rw [if_neg (h i (by omega))]
    exact vgs_no h d (i + 1) x (by omega)
theorem upd_upd (F : Nat → Int32) (k : Nat) (x y : Int32) : upd (upd F k x) k y = upd F k y := by
  funext j
  simp only [upd_a]
  by_cases h : j = k
  · rw [if_pos h, if_pos h]
  · rw [if_neg h, if_neg h, if_neg h]
theorem upd_same (F : Nat → Int32) (k : Nat) : upd F k (F k) = F := by
  funext j
  simp only [upd_a]
  by_cases h : j = k
  · rw [if_pos h, h]
  · rw [if_neg h]
theorem l_cgv {V : mj_V} {J : hq_J} {ks : List Nat} {sl m : Nat} {f : Nat → Int32} {a2 a4 a5 : Option Value} (hm : m < 4) (hl : ks.length ≤ 40) (hf : hval ks f) : ∀ (d i : Nat) (I : hq_I), i + d = 5 → I 0 35 = nI ks.length → I (34 + 5 * m) = f → ∃ I' : hq_I, mj_ev V 62 82 [some (.ref (V.1 + 0)), some (.int (nI m)), a2, some (.ref (V.1 + (31 + 5 * m))), a4, a5, some (.int (nI i))] [] (hp V I J ks ks.length sl) = mj_ev V 62 106 [some (.ref (V.1 + 0)), some (.int (nI m)), a2, some (.ref (V.1 + (31 + 5 * m))), a4, a5, some (.int (nI 5))] [] (hp V I' J ks ks.length sl) ∧ (∀ p, p < ks.length → I' (1000 + 4 * p) = upd (I (1000 + 4 * p)) 4 (vgs f m p d i (I (1000 + 4 * p) 4))) ∧ ∀ id, (∀ p, p < ks.length → id ≠ 1000 + 4 * p) → I' id = I id
  | 0, i, I, hi, hn, hh => by
    obtain rfl : i = 5 := by omega
    refine ⟨I, ?_, fun p hp => (upd_same _ _).symm, fun _ _ => rfl⟩
    rw [r62_82]
    simp only [r62_0, r62_1, r62_4, r62_7, r62_8, r62_11, r62_14, r62_15, r62_16, r62_17, r62_20, r62_21, r62_22, r62_22n, r62_23, r62_23n, r62_24, r62_27, r62_30, r62_31, r62_32, r62_35, r62_36, r62_37, r62_38, r62_41, r62_42, r62_43, r62_46, r62_48, r62_50, r62_53, r62_55, r62_56, r62_57, r62_57n, r62_58, r62_61, r62_61n, r62_62, r62_65, r62_66, r62_69, r62_70, r62_71, r62_74, r62_77, r62_79, r62_80, r62_84, r62_85, r62_88, r62_89, r62_90, r62_90n, r62_91, r62_94, r62_96, r62_97, r62_100, r62_103, r62_108, r62_110, r62_113, r62_114, r62_116, r62_118, r62_119, r62_121, r62_123, r62_124, r62_127, r62_129, Option.bind_some, Option.toList_some, Option.toList_none, List.cons_append, List.nil_append, mj_rfs, mj_rfn, if_true, if_false, not_true_eq_false, not_false_eq_true, true_or, or_true, mj_b_0, mj_b_1, mj_b_01, Decidable.not_not, and_self, and_true, true_and, and_false, false_and, or_false, false_or, or_self, c0_cls, c0_rows, c0_texts, c0_pages, c0_machines, c0_refusals, c0_findingTimes, c0_triedPlan, c0_triedHeld, c0_made, c0_pageCount, c0_day, c0_latestFinding, c0_latestAsked, c0_latestUpper, c0_latestLower, c_isRow, c_isText, c_isMachine, c_isFile, c_isSet, c_isWhy, c_isHarm, c_isWrites, c_isHead, c_max, c_min, c_found1, c_found2, c_found3, c_found4, c_found5, Int32.lt_iff_toInt_lt, Int32.le_iff_toInt_le, ti_m99, ti_m9, ti_m4, ti_m3, ti_m2, ti_m1, ti_0, ti_1, ti_2, ti_3, ti_4, ti_5, ti_6, ti_7, ti_8, ti_9, ti_10, ti_11, ti_16, ti_20, ti_30, ti_32, ti_35, ti_40, ti_63, ti_64, ti_72, ti_76, ti_78, ti_82, ti_84, ti_99, ti_100, ti_111, ti_119, ti_125, ti_160, ti_200, ti_240, ti_256, ti_400, ti_999, ti_1000, ti_1024, show (5 : Int) ≤ (nI 5).toInt by decide]
  | d + 1, i, I, hi, hn, hh => by
    rcases hf i (by omega) with ⟨e9, _⟩ | ⟨j, ej, hj⟩
    · obtain ⟨I', g1, g2, g3⟩ := l_cgv (V := V) (J := J) (sl := sl) (a2 := a2) (a4 := a4) (a5 := a5) hm hl hf d (i + 1) I (by omega) hn hh
      refine ⟨I', ?_, fun p hp => ?_, g3⟩
      · rw [← g1, r62_82]
        simp only [r62_0, r62_1, r62_4, r62_7, r62_8, r62_11, r62_14, r62_15, r62_16, r62_17, r62_20, r62_21, r62_22, r62_22n, r62_23, r62_23n, r62_24, r62_27, r62_30, r62_31, r62_32, r62_35, r62_36, r62_37, r62_38, r62_41, r62_42, r62_43, r62_46, r62_48, r62_50, r62_53, r62_55, r62_56, r62_57, r62_57n, r62_58, r62_61, r62_61n, r62_62, r62_65, r62_66, r62_69, r62_70, r62_71, r62_74, r62_77, r62_79, r62_80, r62_84, r62_85, r62_88, r62_89, r62_90, r62_90n, r62_91, r62_94, r62_96, r62_97, r62_100, r62_103, r62_108, r62_110, r62_113, r62_114, r62_116, r62_118, r62_119, r62_121, r62_123, r62_124, r62_127, r62_129, Option.bind_some, Option.toList_some, Option.toList_none, List.cons_append, List.nil_append, mj_rfs, mj_rfn, if_true, if_false, not_true_eq_false, not_false_eq_true, true_or, or_true, mj_b_0, mj_b_1, mj_b_01, Decidable.not_not, and_self, and_true, true_and, and_false, false_and, or_false, false_or, or_self, c0_cls, c0_rows, c0_texts, c0_pages, c0_machines, c0_refusals, c0_findingTimes, c0_triedPlan, c0_triedHeld, c0_made, c0_pageCount, c0_day, c0_latestFinding, c0_latestAsked, c0_latestUpper, c0_latestLower, c_isRow, c_isText, c_isMachine, c_isFile, c_isSet, c_isWhy, c_isHarm, c_isWrites, c_isHead, c_max, c_min, c_found1, c_found2, c_found3, c_found4, c_found5, Int32.lt_iff_toInt_lt, Int32.le_iff_toInt_le, ti_m99, ti_m9, ti_m4, ti_m3, ti_m2, ti_m1, ti_0, ti_1, ti_2, ti_3, ti_4, ti_5, ti_6, ti_7, ti_8, ti_9, ti_10, ti_11, ti_16, ti_20, ti_30, ti_32, ti_35, ti_40, ti_63, ti_64, ti_72, ti_76, ti_78, ti_82, ti_84, ti_99, ti_100, ti_111, ti_119, ti_125, ti_160, ti_200, ti_240, ti_256, ti_400, ti_999, ti_1000, ti_1024, nI_t (show i < 2 ^ 31 by omega), show ¬ ((5 : Int) ≤ (i : Int)) by omega, mc_held hm, mh_l hm rfl (show i < 5 by omega), hh, e9, c_giveN hn hl, nI_1]
      · rw [g2 p hp]
        show _ = upd (I (1000 + 4 * p)) 4 (vgs f m p d (i + 1) (if f i = nI p then vgv (I (1000 + 4 * p) 4) m else I (1000 + 4 * p) 4))
        rw [if_neg (fun e => by rw [e9] at e; rw [eq_comm, nI_m9 (by omega)] at e; exact e)]
    · have hjl := ks_lt hj
      obtain ⟨I', g1, g2, g3⟩ := l_cgv (V := V) (J := J) (sl := sl) (a2 := a2) (a4 := a4) (a5 := a5) hm hl hf d (i + 1) (va_up I (1000 + 4 * j) (upd (I (1000 + 4 * j)) 4 (vgv (I (1000 + 4 * j) 4) m))) (by omega) (by rw [va_up_ne _ _ (by omega)]; exact hn) (by rw [va_up_ne _ _ (by omega)]; exact hh)
      refine ⟨I', ?_, fun p hp => ?_, fun id hid => ?_⟩
      · rw [← g1, r62_82]
        simp only [r62_0, r62_1, r62_4, r62_7, r62_8, r62_11, r62_14, r62_15, r62_16, r62_17, r62_20, r62_21, r62_22, r62_22n, r62_23, r62_23n, r62_24, r62_27, r62_30, r62_31, r62_32, r62_35, r62_36, r62_37, r62_38, r62_41, r62_42, r62_43, r62_46, r62_48, r62_50, r62_53, r62_55, r62_56, r62_57, r62_57n, r62_58, r62_61, r62_61n, r62_62, r62_65, r62_66, r62_69, r62_70, r62_71, r62_74, r62_77, r62_79, r62_80, r62_84, r62_85, r62_88, r62_89, r62_90, r62_90n, r62_91, r62_94, r62_96, r62_97, r62_100, r62_103, r62_108, r62_110, r62_113, r62_114, r62_116, r62_118, r62_119, r62_121, r62_123, r62_124, r62_127, r62_129, Option.bind_some, Option.toList_some, Option.toList_none, List.cons_append, List.nil_append, mj_rfs, mj_rfn, if_true, if_false, not_true_eq_false, not_false_eq_true, true_or, or_true, mj_b_0, mj_b_1, mj_b_01, Decidable.not_not, and_self, and_true, true_and, and_false, false_and, or_false, false_or, or_self, c0_cls, c0_rows, c0_texts, c0_pages, c0_machines, c0_refusals, c0_findingTimes, c0_triedPlan, c0_triedHeld, c0_made, c0_pageCount, c0_day, c0_latestFinding, c0_latestAsked, c0_latestUpper, c0_latestLower, c_isRow, c_isText, c_isMachine, c_isFile, c_isSet, c_isWhy, c_isHarm, c_isWrites, c_isHead, c_max, c_min, c_found1, c_found2, c_found3, c_found4, c_found5, Int32.lt_iff_toInt_lt, Int32.le_iff_toInt_le, ti_m99, ti_m9, ti_m4, ti_m3, ti_m2, ti_m1, ti_0, ti_1, ti_2, ti_3, ti_4, ti_5, ti_6, ti_7, ti_8, ti_9, ti_10, ti_11, ti_16, ti_20, ti_30, ti_32, ti_35, ti_40, ti_63, ti_64, ti_72, ti_76, ti_78, ti_82, ti_84, ti_99, ti_100, ti_111, ti_119, ti_125, ti_160, ti_200, ti_240, ti_256, ti_400, ti_999, ti_1000, ti_1024, nI_t (show i < 2 ^ 31 by omega), show ¬ ((5 : Int) ≤ (i : Int)) by omega, mc_held hm, mh_l hm rfl (show i < 5 by omega), hh, ej, c_give hn hl (vkf_5 i) hj, nI_1]
      · rw [g2 p hp]
        show _ = upd (I (1000 + 4 * p)) 4 (vgs f m p d (i + 1) (if f i = nI p then vgv (I (1000 + 4 * p) 4) m else I (1000 + 4 * p) 4))
        by_cases hpj : p = j
        · subst hpj
          rw [va_up_self, upd_upd, upd_us, if_pos ej]
        · rw [va_up_ne _ _ (by omega), if_neg (fun e => by rw [ej, nI_eqn (by omega) (by omega)] at e; omega)]
      · rw [g3 id hid, va_up_ne _ _ (hid j hjl)]
theorem l_dgv {V : mj_V} {J : hq_J} {ks : List Nat} {q sl m : Nat} {f : Nat → Int32} {a2 a3 a4 : Option Value} (hm : m < 4) (hl : ks.length ≤ 40) (hf : hval ks f) : ∀ (d i : Nat) (I : hq_I) (a6 : Option Value), i + d = 5 → (∀ w, w < 5 → I 73 (5 * m + w) = f w) → ∃ (K : Nat → Int32) (b6 : Option Value), mj_ev V 181 63 [some (.ref (V.1 + 51)), some (.int (nI m)), a2, a3, a4, some (.int (nI i)), a6] [] (hp V I J ks q sl) = mj_ev V 181 108 [some (.ref (V.1 + 51)), some (.int (nI m)), a2, a3, a4, some (.int (nI 5)), b6] [] (hp V (va_up I 66 K) J ks q sl) ∧ ∀ p, p < 40 → K p = vgs f m p d i (I 66 p)
  | 0, i, I, a6, hi, hh => by
    obtain rfl : i = 5 := by omega
    refine ⟨I 66, a6, ?_, fun p hp => rfl⟩
    rw [va_up_same, r181_63]
    simp only [r181_0, r181_1, r181_2, r181_5, r181_8, r181_9, r181_10, r181_11, r181_14, r181_17, r181_20, r181_21, r181_22, r181_23, r181_26, r181_27, r181_28, r181_31, r181_32, r181_33, r181_36, r181_37, r181_38, r181_39, r181_42, r181_43, r181_44, r181_47, r181_48, r181_49, r181_52, r181_53, r181_54, r181_55, r181_58, r181_60, r181_61, r181_65, r181_66, r181_69, r181_70, r181_73, r181_74, r181_75, r181_76, r181_78, r181_79, r181_80, r181_82, r181_84, r181_86, r181_89, r181_90, r181_93, r181_95, r181_96, r181_97, r181_98, r181_99, r181_100, r181_101, r181_102, r181_105, r181_110, r181_112, r181_115, r181_116, r181_119, r181_121, r181_123, r181_125, r181_126, r181_127, r181_129, r181_131, r181_132, r181_133, r181_134, r181_135, r181_136, r181_137, r181_138, r181_140, Option.bind_some, Option.toList_some, Option.toList_none, List.cons_append, List.nil_append, mj_rfs, mj_rfn, if_true, if_false, not_true_eq_false, not_false_eq_true, true_or, or_true, mj_b_0, mj_b_1, mj_b_01, Decidable.not_not, and_self, and_true, true_and, and_false, false_and, or_false, false_or, or_self, m51_cls, m51_places, m51_rowSize, m51_bytes, m51_textSize, m51_today, m51_pages, m51_kind, m51_number, m51_till, m51_signed, m51_keys, m51_many, m51_sums, m51_lends, m51_names, m51_alsoNames, m51_has, m51_isThere, m51_order, m51_steps, m51_looksAtNumbers, m51_looksAtDays, m51_hasTwo, m51_took, m51_runs, m51_refusals, m51_asked, m51_upper, m51_lower, m51_finding, m51_findings, m51_letters, m51_lettersMany, m51_looks, m51_copies, m51_kept, m51_four, m51_h, d_in, i64, d_tell, d_isMade, d_find1, d_find2, d_find3, d_find4, d_find5, tl_m99, tl_m1, tl_0, tl_1, tl_3, tl_4, tl_5, tl_6, tl_7, tl_9, tl_10, tl_17, tl_31, tl_40, tl_99, tl_999, tl_1023, Int32.lt_iff_toInt_lt, Int32.le_iff_toInt_le, ti_m99, ti_m9, ti_m4, ti_m3, ti_m2, ti_m1, ti_0, ti_1, ti_2, ti_3, ti_4, ti_5, ti_6, ti_7, ti_8, ti_9, ti_10, ti_11, ti_16, ti_20, ti_30, ti_32, ti_35, ti_40, ti_63, ti_64, ti_72, ti_76, ti_78, ti_82, ti_84, ti_99, ti_100, ti_111, ti_119, ti_125, ti_160, ti_200, ti_240, ti_256, ti_400, ti_999, ti_1000, ti_1024, show (5 : Int) ≤ (nI 5).toInt by decide]
  | d + 1, i, I, a6, hi, hh => by
    rcases hf i (by omega) with ⟨e9, _⟩ | ⟨j, ej, hj⟩
    · obtain ⟨K, b6, g1, g2⟩ := l_dgv (V := V) (J := J) (q := q) (sl := sl) (a2 := a2) (a3 := a3) (a4 := a4) hm hl hf d (i + 1) I (some (.int (-9))) (by omega) hh
      refine ⟨K, b6, ?_, fun p hp => ?_⟩
      · rw [← g1, r181_63]
        simp only [r181_0, r181_1, r181_2, r181_5, r181_8, r181_9, r181_10, r181_11, r181_14, r181_17, r181_20, r181_21, r181_22, r181_23, r181_26, r181_27, r181_28, r181_31, r181_32, r181_33, r181_36, r181_37, r181_38, r181_39, r181_42, r181_43, r181_44, r181_47, r181_48, r181_49, r181_52, r181_53, r181_54, r181_55, r181_58, r181_60, r181_61, r181_65, r181_66, r181_69, r181_70, r181_73, r181_74, r181_75, r181_76, r181_78, r181_79, r181_80, r181_82, r181_84, r181_86, r181_89, r181_90, r181_93, r181_95, r181_96, r181_97, r181_98, r181_99, r181_100, r181_101, r181_102, r181_105, r181_110, r181_112, r181_115, r181_116, r181_119, r181_121, r181_123, r181_125, r181_126, r181_127, r181_129, r181_131, r181_132, r181_133, r181_134, r181_135, r181_136, r181_137, r181_138, r181_140, Option.bind_some, Option.toList_some, Option.toList_none, List.cons_append, List.nil_append, mj_rfs, mj_rfn, if_true, if_false, not_true_eq_false, not_false_eq_true, true_or, or_true, mj_b_0, mj_b_1, mj_b_01, Decidable.not_not, and_self, and_true, true_and, and_false, false_and, or_false, false_or, or_self, m51_cls, m51_places, m51_rowSize, m51_bytes, m51_textSize, m51_today, m51_pages, m51_kind, m51_number, m51_till, m51_signed, m51_keys, m51_many, m51_sums, m51_lends, m51_names, m51_alsoNames, m51_has, m51_isThere, m51_order, m51_steps, m51_looksAtNumbers, m51_looksAtDays, m51_hasTwo, m51_took, m51_runs, m51_refusals, m51_asked, m51_upper, m51_lower, m51_finding, m51_findings, m51_letters, m51_lettersMany, m51_looks, m51_copies, m51_kept, m51_four, m51_h, d_in, i64, d_tell, d_isMade, d_find1, d_find2, d_find3, d_find4, d_find5, tl_m99, tl_m1, tl_0, tl_1, tl_3, tl_4, tl_5, tl_6, tl_7, tl_9, tl_10, tl_17, tl_31, tl_40, tl_99, tl_999, tl_1023, Int32.lt_iff_toInt_lt, Int32.le_iff_toInt_le, ti_m99, ti_m9, ti_m4, ti_m3, ti_m2, ti_m1, ti_0, ti_1, ti_2, ti_3, ti_4, ti_5, ti_6, ti_7, ti_8, ti_9, ti_10, ti_11, ti_16, ti_20, ti_30, ti_32, ti_35, ti_40, ti_63, ti_64, ti_72, ti_76, ti_78, ti_82, ti_84, ti_99, ti_100, ti_111, ti_119, ti_125, ti_160, ti_200, ti_240, ti_256, ti_400, ti_999, ti_1000, ti_1024, nI_t (show i < 2 ^ 31 by omega), show ¬ ((5 : Int) ≤ (i : Int)) by omega, a73_l (ix5 m i) (show 5 * m + i < 20 by omega), hh i (by omega), e9, eq_self, nI_1]
      · rw [g2 p hp]
        show _ = vgs f m p d (i + 1) (if f i = nI p then vgv (I 66 p) m else I 66 p)
        rw [if_neg (fun e => by rw [e9] at e; rw [eq_comm, nI_m9 (by omega)] at e; exact e)]
    · have hjl := ks_lt hj
      obtain ⟨K, b6, g1, g2⟩ := l_dgv (V := V) (J := J) (q := q) (sl := sl) (a2 := a2) (a3 := a3) (a4 := a4) hm hl hf d (i + 1) (va_up I 66 (upd (I 66) j (vgv (I 66 j) m))) (some (.int (nI j))) (by omega) (fun w hw => by rw [va_up_ne _ _ (by omega)]; exact hh w hw)
      rw [va_up_up] at g1
      unfold vgv at g1
      refine ⟨K, b6, ?_, fun p hp => ?_⟩
      · rw [← g1, r181_63]
        simp only [r181_0, r181_1, r181_2, r181_5, r181_8, r181_9, r181_10, r181_11, r181_14, r181_17, r181_20, r181_21, r181_22, r181_23, r181_26, r181_27, r181_28, r181_31, r181_32, r181_33, r181_36, r181_37, r181_38, r181_39, r181_42, r181_43, r181_44, r181_47, r181_48, r181_49, r181_52, r181_53, r181_54, r181_55, r181_58, r181_60, r181_61, r181_65, r181_66, r181_69, r181_70, r181_73, r181_74, r181_75, r181_76, r181_78, r181_79, r181_80, r181_82, r181_84, r181_86, r181_89, r181_90, r181_93, r181_95, r181_96, r181_97, r181_98, r181_99, r181_100, r181_101, r181_102, r181_105, r181_110, r181_112, r181_115, r181_116, r181_119, r181_121, r181_123, r181_125, r181_126, r181_127, r181_129, r181_131, r181_132, r181_133, r181_134, r181_135, r181_136, r181_137, r181_138, r181_140, Option.bind_some, Option.toList_some, Option.toList_none, List.cons_append, List.nil_append, mj_rfs, mj_rfn, if_true, if_false, not_true_eq_false, not_false_eq_true, true_or, or_true, mj_b_0, mj_b_1, mj_b_01, Decidable.not_not, and_self, and_true, true_and, and_false, false_and, or_false, false_or, or_self, m51_cls, m51_places, m51_rowSize, m51_bytes, m51_textSize, m51_today, m51_pages, m51_kind, m51_number, m51_till, m51_signed, m51_keys, m51_many, m51_sums, m51_lends, m51_names, m51_alsoNames, m51_has, m51_isThere, m51_order, m51_steps, m51_looksAtNumbers, m51_looksAtDays, m51_hasTwo, m51_took, m51_runs, m51_refusals, m51_asked, m51_upper, m51_lower, m51_finding, m51_findings, m51_letters, m51_lettersMany, m51_looks, m51_copies, m51_kept, m51_four, m51_h, d_in, i64, d_tell, d_isMade, d_find1, d_find2, d_find3, d_find4, d_find5, tl_m99, tl_m1, tl_0, tl_1, tl_3, tl_4, tl_5, tl_6, tl_7, tl_9, tl_10, tl_17, tl_31, tl_40, tl_99, tl_999, tl_1023, Int32.lt_iff_toInt_lt, Int32.le_iff_toInt_le, ti_m99, ti_m9, ti_m4, ti_m3, ti_m2, ti_m1, ti_0, ti_1, ti_2, ti_3, ti_4, ti_5, ti_6, ti_7, ti_8, ti_9, ti_10, ti_11, ti_16, ti_20, ti_30, ti_32, ti_35, ti_40, ti_63, ti_64, ti_72, ti_76, ti_78, ti_82, ti_84, ti_99, ti_100, ti_111, ti_119, ti_125, ti_160, ti_200, ti_240, ti_256, ti_400, ti_999, ti_1000, ti_1024, nI_t (show i < 2 ^ 31 by omega), show ¬ ((5 : Int) ≤ (i : Int)) by omega, a73_l (ix5 m i) (show 5 * m + i < 20 by omega), hh i (by omega), ej, nI_m9 (show j < 2 ^ 31 by omega), a66_l rfl (show j < 40 by omega), a66_s rfl (show j < 40 by omega), nI_1]
      · rw [g2 p hp]
        show _ = vgs f m p d (i + 1) (if f i = nI p then vgv (I 66 p) m else I 66 p)
        by_cases hpj : p = j
        · subst hpj
          rw [va_up_self, upd_us, if_pos ej]
        · rw [va_up_self, upd_ne hpj, if_neg (fun e => by rw [ej, nI_eqn (by omega) (by omega)] at e; omega)]
theorem inv_ask {I F : hq_I} {J : hq_J} {ks : List Nat} {sl m : Nat} {f' : Nat → Int32} {y : Nat → Int32} (hI : Inv I J ks sl) (hm : m < 4) (h0 : ∀ id, id < 1000 → id ≠ 5 → id ≠ 66 → id ≠ 73 → id ≠ 75 → id ≠ 78 → id ≠ 34 + 5 * m → F id = I id) (h1 : ∀ p, p < ks.length → F (1000 + 4 * p) = upd (I (1000 + 4 * p)) 4 (y p)) (h1' : ∀ p, p < ks.length → F (1001 + 4 * p) = I (1001 + 4 * p) ∧ F (1002 + 4 * p) = I (1002 + 4 * p)) (h2 : ∀ p, p < ks.length → F 66 p = y p) (h2' : ∀ p, ks.length ≤ p → p < 40 → F 66 p = I 66 p) (h3 : F (34 + 5 * m) = f') (h4 : hval ks f') (h5 : ∀ w, w < 5 → F 73 (5 * m + w) = f' w) (h6 : ∀ x, ¬ (5 * m ≤ x ∧ x < 5 * m + 5) → F 73 x = I 73 x) (hx : vX F) : Inv F J ks sl := by
  obtain ⟨vf, va, vd, vr, vt, vx, vp, vm, vl⟩ := hI
  refine ⟨vf.congr ?_ ?_ ?_ ?_, va.congr ?_ ?_, vd.congr ?_ ?_, vr.congr ?_ ?_ ?_, vt.congr ?_ ?_ ?_, hx, ?_, ?_, vl⟩
  all_goals try (intros; simp (disch := omega) only [h0]; done)
  · refine ⟨?_, fun p k hk => ?_, fun p h7 h8 => ?_⟩
    · rw [h0 0 (by omega) (by omega) (by omega) (by omega) (by omega) (by omega) (by omega), h0 51 (by omega) (by omega) (by omega) (by omega) (by omega) (by omega) (by omega)]
      exact vp.1
    · have hpl := ks_lt hk
      obtain ⟨a1, a2, a3, a4, a5, a6, a7, a8, a9⟩ := vp.2.1 p k hk
      unfold vP1
      rw [h1 p hpl, (h1' p hpl).1, (h1' p hpl).2, h2 p hpl]
      simp (disch := omega) only [h0, upd_ne, upd_us]
      exact ⟨a1, a2, a3, a4, trivial, a6, a7, a8, a9⟩
    · rw [h2' p h7 h8, h0 59 (by omega) (by omega) (by omega) (by omega) (by omega) (by omega) (by omega)]
      exact vp.2.2 p h7 h8
  · intro m' hm'
    obtain ⟨a, b⟩ := vm m' hm'
    refine ⟨?_, ?_⟩
    · rw [h0 67 (by omega) (by omega) (by omega) (by omega) (by omega) (by omega) (by omega), h0 (31 + 5 * m') (by omega) (by omega) (by omega) (by omega) (by omega) (by omega) (by omega)]
      exact a
    · rw [h0 (31 + 5 * m') (by omega) (by omega) (by omega) (by omega) (by omega) (by omega) (by omega)]
      refine b.imp_right (fun b => ⟨b.1, ?_⟩)
      obtain ⟨d1, d2, d3⟩ := b.2
      unfold vM1
      rw [h0 68 (by omega) (by omega) (by omega) (by omega) (by omega) (by omega) (by omega), h0 69 (by omega) (by omega) (by omega) (by omega) (by omega) (by omega) (by omega), h0 70 (by omega) (by omega) (by omega) (by omega) (by omega) (by omega) (by omega), h0 71 (by omega) (by omega) (by omega) (by omega) (by omega) (by omega) (by omega), h0 72 (by omega) (by omega) (by omega) (by omega) (by omega) (by omega) (by omega), h0 74 (by omega) (by omega) (by omega) (by omega) (by omega) (by omega) (by omega), h0 (32 + 5 * m') (by omega) (by omega) (by omega) (by omega) (by omega) (by omega) (by omega), h0 (33 + 5 * m') (by omega) (by omega) (by omega) (by omega) (by omega) (by omega) (by omega), h0 (35 + 5 * m') (by omega) (by omega) (by omega) (by omega) (by omega) (by omega) (by omega)]
      refine ⟨d1, fun w hw => ?_, d3⟩
      by_cases hmm : m' = m
      · subst hmm
        rw [h3, h5 w hw]
        exact ⟨rfl, h4 w hw⟩
      · rw [h0 (34 + 5 * m') (by omega) (by omega) (by omega) (by omega) (by omega) (by omega) (by omega), h6 _ (by omega)]
        exact d2 w hw
theorem q10 : ∀ k, k < 5 → ∀ w, w < 7 → nI (10 * k + w) / 10 = nI k ∧ nI (10 * k + w) - nI k * 10 = nI w := by decide +kernel
theorem c_countR {V : mj_V} {I : hq_I} {J : hq_J} {ks : List Nat} {q sl : Nat} {k w : Nat} (hk : k < 5) (hw1 : 1 ≤ w) (hw : w ≤ 6) : mj_ev V 113 0 [some (.ref (V.1 + 0)), some (.int (nI k)), some (.int (nI w))] [] (hp V I J ks q sl) = some (none, hp V (va_up I 5 (upd (I 5) (6 * k + (w - 1)) (I 5 (6 * k + (w - 1)) + 1))) J ks q sl) := by
  simp only [r113_0, r113_1, r113_4, r113_5, r113_6, r113_9, r113_10, r113_13, r113_16, r113_17, r113_20, r113_21, r113_22, r113_25, r113_26, r113_27, r113_28, r113_29, r113_30, Option.bind_some, Option.toList_some, Option.toList_none, List.cons_append, List.nil_append, mj_rfs, mj_rfn, if_true, if_false, not_true_eq_false, not_false_eq_true, true_or, or_true, mj_b_0, mj_b_1, mj_b_01, Decidable.not_not, and_self, and_true, true_and, and_false, false_and, or_false, false_or, or_self, c0_cls, c0_rows, c0_texts, c0_pages, c0_machines, c0_refusals, c0_findingTimes, c0_triedPlan, c0_triedHeld, c0_made, c0_pageCount, c0_day, c0_latestFinding, c0_latestAsked, c0_latestUpper, c0_latestLower, c_isRow, c_isText, c_isMachine, c_isFile, c_isSet, c_isWhy, c_isHarm, c_isWrites, c_isHead, c_max, c_min, c_found1, c_found2, c_found3, c_found4, c_found5, Int32.lt_iff_toInt_lt, Int32.le_iff_toInt_le, ti_m99, ti_m9, ti_m4, ti_m3, ti_m2, ti_m1, ti_0, ti_1, ti_2, ti_3, ti_4, ti_5, ti_6, ti_7, ti_8, ti_9, ti_10, ti_11, ti_16, ti_20, ti_30, ti_32, ti_35, ti_40, ti_63, ti_64, ti_72, ti_76, ti_78, ti_82, ti_84, ti_99, ti_100, ti_111, ti_119, ti_125, ti_160, ti_200, ti_240, ti_256, ti_400, ti_999, ti_1000, ti_1024, nI_t (show k < 2 ^ 31 by omega), nI_t (show w < 2 ^ 31 by omega), show ¬ ((k : Int) < 0) by omega, show ¬ ((5 : Int) ≤ (k : Int)) by omega, show (1 : Int) ≤ (w : Int) by omega, show (w : Int) ≤ 6 by omega, bT, i10, r112_0, r112_1, r112_3, r112_4, r112_5, r112_6, r112_7, r112_8, a5_l (ix6 k w hw1) (show 6 * k + (w - 1) < 30 by omega), a5_s (ix6 k w hw1) (show 6 * k + (w - 1) < 30 by omega)]
/-- a machine that has begun, as its steps read it -/
theorem mach_ex {I : hq_I} {ks : List Nat} {m : Nat} (h : vM1 I ks m) : ∃ (s a b : Nat) (ord : Nat → Nat), pok s a b ord ∧ (I (32 + 5 * m) 14 = nI s ∧ I (32 + 5 * m) 15 = nI a ∧ I (32 + 5 * m) 16 = nI b ∧ ∀ k, k < s → I (33 + 5 * m) k = nI (ord k)) ∧ (I 69 m = nI s ∧ (∀ k, k < s → I 68 (5 * m + k) = nI (ord k)) ∧ I 70 m = mj_b (b % 2 = 1) ∧ I 71 m = mj_b (b / 2 % 2 = 1)) ∧ hval ks (I (34 + 5 * m)) ∧ ∀ w, w < 5 → I 73 (5 * m + w) = I (34 + 5 * m) w := by
  obtain ⟨⟨s, a, b, h1, h2, h3, h4, h5, h6, h7, h8, h9, h10, h11, h12⟩, g1, g2⟩ := h
  have ho : ∀ k, k < s → (I (33 + 5 * m) k).toInt.toNat < 5 ∧ I (33 + 5 * m) k = nI (I (33 + 5 * m) k).toInt.toNat := by
    intro k hk
    obtain ⟨w, hw, e⟩ := (h8 k hk).2
    rw [e, nI_t (by omega)]
    exact ⟨by omega, rfl⟩
  refine ⟨s, a, b, fun k => (I (33 + 5 * m) k).toInt.toNat, ⟨h1, h2, h3, fun k hk => (ho k hk).1, fun w hw => ?_⟩, ⟨h5, h6, h7, fun k hk => (ho k hk).2⟩, ⟨h4, fun k hk => (h8 k hk).1.trans (ho k hk).2, h10, h11⟩, fun w hw => (g1 w hw).2, fun w hw => (g1 w hw).1⟩
  refine (h9 w hw).trans ⟨?_, ?_⟩
  · rintro ⟨k, hk, e⟩
    exact ⟨k, hk, by show (I (33 + 5 * m) k).toInt.toNat = w; rw [e, nI_t (by omega)]; omega⟩
  · rintro ⟨k, hk, e⟩
    have e : (I (33 + 5 * m) k).toInt.toNat = w := e
    exact ⟨k, hk, by rw [(ho k hk).2, e]⟩
