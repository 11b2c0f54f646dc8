/-! promise 35: share -/
def vsh (F : Nat → Bool) (n : Nat) : Nat → Nat × Nat
  | 0 => (0, 0)
  | i + 1 => if b10 i = n then ((vsh F n i).1 + 1, (vsh F n i).2 + (if F i = true then 1 else 0)) else vsh F n i
theorem vsh_y {F : Nat → Bool} {n i : Nat} (h : b10 i = n) : vsh F n (i + 1) = ((vsh F n i).1 + 1, (vsh F n i).2 + (if F i = true then 1 else 0)) := if_pos h
theorem vsh_n {F : Nat → Bool} {n i : Nat} (h : ¬ b10 i = n) : vsh F n (i + 1) = vsh F n i := if_neg h
theorem vsh_le (F : Nat → Bool) (n : Nat) : ∀ i, (vsh F n i).1 ≤ i ∧ (vsh F n i).2 ≤ i
  | 0 => ⟨Nat.le_refl _, Nat.le_refl _⟩
  | i + 1 => by
    have ih := vsh_le F n i
    by_cases h : b10 i = n
    · rw [vsh_y h]
      refine ⟨by show (vsh F n i).1 + 1 ≤ i + 1; omega, ?_⟩
      show (vsh F n i).2 + (if F i = true then 1 else 0) ≤ i + 1
      split <;> omega
    · rw [vsh_n h]
      omega
theorem vsh_mono (F : Nat → Bool) (n : Nat) : ∀ d i, (vsh F n i).1 ≤ (vsh F n (i + d)).1
  | 0, i => Nat.le_refl _
  | d + 1, i => by
    have ih := vsh_mono F n d i
    rw [show i + (d + 1) = i + d + 1 by omega]
    by_cases h : b10 (i + d) = n
    · rw [vsh_y h]
      show (vsh F n i).1 ≤ (vsh F n (i + d)).1 + 1
      omega
    · rw [vsh_n h]
      exact ih
theorem b10_ones : ∀ n, n < 11 → b10 (2 ^ n - 1) = n ∧ 2 ^ n - 1 < 1024 := by decide
theorem vsh_pos {F : Nat → Bool} {n : Nat} (hn : n < 11) : 0 < (vsh F n 1024).1 := by
  obtain ⟨h1, h2⟩ := b10_ones n hn
  have h3 := vsh_mono F n (1024 - (2 ^ n - 1 + 1)) (2 ^ n - 1 + 1)
  rw [show 2 ^ n - 1 + 1 + (1024 - (2 ^ n - 1 + 1)) = 1024 by omega, vsh_y h1] at h3
  have h3 : (vsh F n (2 ^ n - 1)).1 + 1 ≤ (vsh F n 1024).1 := h3
  omega
/-- the greatest common divisor, by steps -/
def eu : Nat → Nat → Nat → Nat × Nat
  | 0, x, y => (x, y)
  | f + 1, x, y => if y = 0 then (x, 0) else eu f y (x % y)
theorem eu_y {f x y : Nat} (h : y = 0) : eu (f + 1) x y = (x, 0) := if_pos h
theorem eu_n {f x y : Nat} (h : ¬ y = 0) : eu (f + 1) x y = eu f y (x % y) := if_neg h
theorem eu_z (f x : Nat) : eu f x 0 = (x, 0) := by
  cases f with
  | zero => rfl
  | succ f => exact eu_y rfl
theorem eu_end : ∀ (k x y f : Nat), y < 2 ^ k → 2 * k ≤ f → (eu f x y).2 = 0
  | 0, x, y, f, h, hf => by
    obtain rfl : y = 0 := by omega
    rw [eu_z]
  | k + 1, x, y, f, h, hf => by
    obtain ⟨f', rfl⟩ : ∃ f', f = f' + 2 := ⟨f - 2, by omega⟩
    by_cases hy : y = 0
    · rw [hy, eu_z]
    · rw [eu_n hy]
      have hz : x % y < y := Nat.mod_lt _ (by omega)
      by_cases hz0 : x % y = 0
      · rw [hz0, eu_z]
      · rw [eu_n hz0]
        refine eu_end k _ _ f' ?_ (by omega)
        have h1 : y % (x % y) < x % y := Nat.mod_lt _ (by omega)
        have h2 : y % (x % y) ≤ y - x % y := by
          have h4 := Nat.div_add_mod y (x % y)
          have h5 : x % y ≤ x % y * (y / (x % y)) := Nat.le_mul_of_pos_right _ (Nat.div_pos (by omega) (by omega))
          omega
        have h3 : 2 ^ (k + 1) = 2 * 2 ^ k := by rw [Nat.pow_succ]; omega
        omega
theorem eu_pos : ∀ (f x y : Nat), (eu f x y).2 = 0 → (x ≠ 0 ∨ y ≠ 0) → (eu f x y).1 ≠ 0
  | 0, x, y, h, h2 => by
    have h : y = 0 := h
    show x ≠ 0
    omega
  | f + 1, x, y, h, h2 => by
    by_cases hy : y = 0
    · rw [eu_y hy]
      show x ≠ 0
      omega
    · rw [eu_n hy] at h ⊢
      exact eu_pos f _ _ h (Or.inl hy)
theorem eu_le : ∀ (f x y n : Nat), x ≤ n → y ≤ n → (eu f x y).1 ≤ n
  | 0, x, y, n, h1, h2 => h1
  | f + 1, x, y, n, h1, h2 => by
    by_cases hy : y = 0
    · rw [eu_y hy]
      exact h1
    · rw [eu_n hy]
      exact eu_le f _ _ n h2 (Nat.le_trans (Nat.le_of_lt (Nat.mod_lt _ (by omega))) h2)
theorem rem_nI {x y : Nat} (hx : x < 2 ^ 31) (hy : y < 2 ^ 31) (h0 : 0 < y) : nI x - nI x / nI y * nI y = nI (x % y) := by
  have h4 := Nat.div_add_mod x y
  rw [Nat.mul_comm] at h4
  rw [pk_div hx h0 hy, pk_mul, pk_sub (by omega)]
  congr 1
  omega
theorem l_ceu {V : mj_V} {h : mj_H} {a0 a1 : Option Value} : ∀ (d i x y : Nat) (a5 : Option Value), i + d = 64 → x < 2 ^ 31 → y < 2 ^ 31 → mj_ev V 118 7 [a0, a1, some (.int (nI x)), some (.int (nI y)), some (.int (nI i)), a5] [] h = some (some (.int (nI (eu d x y).1)), h)
  | 0, i, x, y, a5, hi, hx, hy => by
    obtain rfl : i = 64 := by omega
    rw [r118_7]
    simp only [r118_0, r118_1, r118_2, r118_3, r118_4, r118_5, r118_9, r118_11, r118_14, r118_15, r118_18, r118_19, r118_20, r118_21, r118_23, r118_24, r118_25, r118_27, r118_28, r118_31, r118_34, r118_35, Option.bind_some, Option.toList_some, Option.toList_none, List.cons_append, List.nil_append, mj_rfs, mj_rfn, if_true, if_false, not_true_eq_false, not_false_eq_true, true_or, or_true, mj_b_0, mj_b_1, mj_b_01, Decidable.not_not, and_self, and_true, true_and, and_false, false_and, or_false, false_or, or_self, c0_cls, c0_rows, c0_texts, c0_pages, c0_machines, c0_refusals, c0_findingTimes, c0_triedPlan, c0_triedHeld, c0_made, c0_pageCount, c0_day, c0_latestFinding, c0_latestAsked, c0_latestUpper, c0_latestLower, c_isRow, c_isText, c_isMachine, c_isFile, c_isSet, c_isWhy, c_isHarm, c_isWrites, c_isHead, c_max, c_min, c_found1, c_found2, c_found3, c_found4, c_found5, Int32.lt_iff_toInt_lt, Int32.le_iff_toInt_le, ti_m99, ti_m9, ti_m4, ti_m3, ti_m2, ti_m1, ti_0, ti_1, ti_2, ti_3, ti_4, ti_5, ti_6, ti_7, ti_8, ti_9, ti_10, ti_11, ti_16, ti_20, ti_30, ti_32, ti_35, ti_40, ti_63, ti_64, ti_72, ti_76, ti_78, ti_82, ti_84, ti_99, ti_100, ti_111, ti_119, ti_125, ti_160, ti_200, ti_240, ti_256, ti_400, ti_999, ti_1000, ti_1024, show (64 : Int) ≤ (nI 64).toInt by decide, eu]
  | d + 1, i, x, y, a5, hi, hx, hy => by
    rw [r118_7]
    by_cases h0 : y = 0
    · rw [eu_y h0]
      simp only [r118_0, r118_1, r118_2, r118_3, r118_4, r118_5, r118_9, r118_11, r118_14, r118_15, r118_18, r118_19, r118_20, r118_21, r118_23, r118_24, r118_25, r118_27, r118_28, r118_31, r118_34, r118_35, Option.bind_some, Option.toList_some, Option.toList_none, List.cons_append, List.nil_append, mj_rfs, mj_rfn, if_true, if_false, not_true_eq_false, not_false_eq_true, true_or, or_true, mj_b_0, mj_b_1, mj_b_01, Decidable.not_not, and_self, and_true, true_and, and_false, false_and, or_false, false_or, or_self, c0_cls, c0_rows, c0_texts, c0_pages, c0_machines, c0_refusals, c0_findingTimes, c0_triedPlan, c0_triedHeld, c0_made, c0_pageCount, c0_day, c0_latestFinding, c0_latestAsked, c0_latestUpper, c0_latestLower, c_isRow, c_isText, c_isMachine, c_isFile, c_isSet, c_isWhy, c_isHarm, c_isWrites, c_isHead, c_max, c_min, c_found1, c_found2, c_found3, c_found4, c_found5, Int32.lt_iff_toInt_lt, Int32.le_iff_toInt_le, ti_m99, ti_m9, ti_m4, ti_m3, ti_m2, ti_m1, ti_0, ti_1, ti_2, ti_3, ti_4, ti_5, ti_6, ti_7, ti_8, ti_9, ti_10, ti_11, ti_16, ti_20, ti_30, ti_32, ti_35, ti_40, ti_63, ti_64, ti_72, ti_76, ti_78, ti_82, ti_84, ti_99, ti_100, ti_111, ti_119, ti_125, ti_160, ti_200, ti_240, ti_256, ti_400, ti_999, ti_1000, ti_1024, nI_t (show i < 2 ^ 31 by omega), show ¬ ((64 : Int) ≤ (i : Int)) by omega, h0, nI_z, eq_self]
    · rw [eu_n h0]
      have hz : ¬ nI y = 0 := by rw [nIz hy]; exact h0
      have ih := l_ceu (V := V) (h := h) (a0 := a0) (a1 := a1) d (i + 1) y (x % y) (some (.int (nI (x % y)))) (by omega) hy (Nat.lt_of_le_of_lt (Nat.mod_le _ _) hx)
      simp only [r118_0, r118_1, r118_2, r118_3, r118_4, r118_5, r118_9, r118_11, r118_14, r118_15, r118_18, r118_19, r118_20, r118_21, r118_23, r118_24, r118_25, r118_27, r118_28, r118_31, r118_34, r118_35, Option.bind_some, Option.toList_some, Option.toList_none, List.cons_append, List.nil_append, mj_rfs, mj_rfn, if_true, if_false, not_true_eq_false, not_false_eq_true, true_or, or_true, mj_b_0, mj_b_1, mj_b_01, Decidable.not_not, and_self, and_true, true_and, and_false, false_and, or_false, false_or, or_self, c0_cls, c0_rows, c0_texts, c0_pages, c0_machines, c0_refusals, c0_findingTimes, c0_triedPlan, c0_triedHeld, c0_made, c0_pageCount, c0_day, c0_latestFinding, c0_latestAsked, c0_latestUpper, c0_latestLower, c_isRow, c_isText, c_isMachine, c_isFile, c_isSet, c_isWhy, c_isHarm, c_isWrites, c_isHead, c_max, c_min, c_found1, c_found2, c_found3, c_found4, c_found5, Int32.lt_iff_toInt_lt, Int32.le_iff_toInt_le, ti_m99, ti_m9, ti_m4, ti_m3, ti_m2, ti_m1, ti_0, ti_1, ti_2, ti_3, ti_4, ti_5, ti_6, ti_7, ti_8, ti_9, ti_10, ti_11, ti_16, ti_20, ti_30, ti_32, ti_35, ti_40, ti_63, ti_64, ti_72, ti_76, ti_78, ti_82, ti_84, ti_99, ti_100, ti_111, ti_119, ti_125, ti_160, ti_200, ti_240, ti_256, ti_400, ti_999, ti_1000, ti_1024, nI_t (show i < 2 ^ 31 by omega), show ¬ ((64 : Int) ≤ (i : Int)) by omega, hz, rem_nI hx hy (show 0 < y by omega), nI_1]
      exact ih
theorem l_deu {V : mj_V} {h : mj_H} {a0 a1 a2 a3 a4 a5 a6 a7 : Option Value} : ∀ (f x y : Nat) (a10 : Option Value), (eu f x y).2 = 0 → x < 2 ^ 31 → y < 2 ^ 31 → ∃ b9 b10 : Option Value, mj_ev V 198 92 [a0, a1, a2, a3, a4, a5, a6, a7, some (.int (nI x)), some (.int (nI y)), a10] [] h = mj_ev V 198 115 [a0, a1, a2, a3, a4, a5, a6, a7, some (.int (nI (eu f x y).1)), b9, b10] [] h
  | 0, x, y, a10, he, hx, hy => by
    have he : y = 0 := he
    refine ⟨some (.int (nI y)), a10, ?_⟩
    rw [r198_92, he]
    simp only [r198_0, r198_1, r198_2, r198_3, r198_4, r198_6, r198_7, r198_8, r198_11, r198_14, r198_17, r198_19, r198_21, r198_24, r198_26, r198_27, r198_28, r198_30, r198_31, r198_33, r198_34, r198_36, r198_38, r198_41, r198_44, r198_46, r198_49, r198_51, r198_54, r198_57, r198_59, r198_60, r198_61, r198_62, r198_64, r198_67, r198_70, r198_71, r198_74, r198_75, r198_76, r198_78, r198_81, r198_84, r198_86, r198_88, r198_90, r198_94, r198_97, r198_99, r198_101, r198_102, r198_104, r198_106, r198_108, r198_110, r198_112, r198_116, r198_118, r198_120, r198_121, r198_122, r198_125, r198_126, r198_128, r198_130, r198_131, r198_132, r198_135, r198_137, Option.bind_some, Option.toList_some, Option.toList_none, List.cons_append, List.nil_append, mj_rfs, mj_rfn, if_true, if_false, not_true_eq_false, not_false_eq_true, true_or, or_true, mj_b_0, mj_b_1, mj_b_01, Decidable.not_not, and_self, and_true, true_and, and_false, false_and, or_false, false_or, or_self, m51_cls, m51_places, m51_rowSize, m51_bytes, m51_textSize, m51_today, m51_pages, m51_kind, m51_number, m51_till, m51_signed, m51_keys, m51_many, m51_sums, m51_lends, m51_names, m51_alsoNames, m51_has, m51_isThere, m51_order, m51_steps, m51_looksAtNumbers, m51_looksAtDays, m51_hasTwo, m51_took, m51_runs, m51_refusals, m51_asked, m51_upper, m51_lower, m51_finding, m51_findings, m51_letters, m51_lettersMany, m51_looks, m51_copies, m51_kept, m51_four, m51_h, d_in, i64, d_tell, d_isMade, d_find1, d_find2, d_find3, d_find4, d_find5, tl_m99, tl_m1, tl_0, tl_1, tl_3, tl_4, tl_5, tl_6, tl_7, tl_9, tl_10, tl_17, tl_31, tl_40, tl_99, tl_999, tl_1023, Int32.lt_iff_toInt_lt, Int32.le_iff_toInt_le, ti_m99, ti_m9, ti_m4, ti_m3, ti_m2, ti_m1, ti_0, ti_1, ti_2, ti_3, ti_4, ti_5, ti_6, ti_7, ti_8, ti_9, ti_10, ti_11, ti_16, ti_20, ti_30, ti_32, ti_35, ti_40, ti_63, ti_64, ti_72, ti_76, ti_78, ti_82, ti_84, ti_99, ti_100, ti_111, ti_119, ti_125, ti_160, ti_200, ti_240, ti_256, ti_400, ti_999, ti_1000, ti_1024, nI_z, Int.le_refl, eu]
  | f + 1, x, y, a10, he, hx, hy => by
    by_cases h0 : y = 0
    · refine ⟨some (.int (nI y)), a10, ?_⟩
      rw [eu_y h0, r198_92, h0]
      simp only [r198_0, r198_1, r198_2, r198_3, r198_4, r198_6, r198_7, r198_8, r198_11, r198_14, r198_17, r198_19, r198_21, r198_24, r198_26, r198_27, r198_28, r198_30, r198_31, r198_33, r198_34, r198_36, r198_38, r198_41, r198_44, r198_46, r198_49, r198_51, r198_54, r198_57, r198_59, r198_60, r198_61, r198_62, r198_64, r198_67, r198_70, r198_71, r198_74, r198_75, r198_76, r198_78, r198_81, r198_84, r198_86, r198_88, r198_90, r198_94, r198_97, r198_99, r198_101, r198_102, r198_104, r198_106, r198_108, r198_110, r198_112, r198_116, r198_118, r198_120, r198_121, r198_122, r198_125, r198_126, r198_128, r198_130, r198_131, r198_132, r198_135, r198_137, Option.bind_some, Option.toList_some, Option.toList_none, List.cons_append, List.nil_append, mj_rfs, mj_rfn, if_true, if_false, not_true_eq_false, not_false_eq_true, true_or, or_true, mj_b_0, mj_b_1, mj_b_01, Decidable.not_not, and_self, and_true, true_and, and_false, false_and, or_false, false_or, or_self, m51_cls, m51_places, m51_rowSize, m51_bytes, m51_textSize, m51_today, m51_pages, m51_kind, m51_number, m51_till, m51_signed, m51_keys, m51_many, m51_sums, m51_lends, m51_names, m51_alsoNames, m51_has, m51_isThere, m51_order, m51_steps, m51_looksAtNumbers, m51_looksAtDays, m51_hasTwo, m51_took, m51_runs, m51_refusals, m51_asked, m51_upper, m51_lower, m51_finding, m51_findings, m51_letters, m51_lettersMany, m51_looks, m51_copies, m51_kept, m51_four, m51_h, d_in, i64, d_tell, d_isMade, d_find1, d_find2, d_find3, d_find4, d_find5, tl_m99, tl_m1, tl_0, tl_1, tl_3, tl_4, tl_5, tl_6, tl_7, tl_9, tl_10, tl_17, tl_31, tl_40, tl_99, tl_999, tl_1023, Int32.lt_iff_toInt_lt, Int32.le_iff_toInt_le, ti_m99, ti_m9, ti_m4, ti_m3, ti_m2, ti_m1, ti_0, ti_1, ti_2, ti_3, ti_4, ti_5, ti_6, ti_7, ti_8, ti_9, ti_10, ti_11, ti_16, ti_20, ti_30, ti_32, ti_35, ti_40, ti_63, ti_64, ti_72, ti_76, ti_78, ti_82, ti_84, ti_99, ti_100, ti_111, ti_119, ti_125, ti_160, ti_200, ti_240, ti_256, ti_400, ti_999, ti_1000, ti_1024, nI_z, Int.le_refl]
    · rw [eu_n h0] at he ⊢
      have hz : ¬ nI y = 0 := by rw [nIz hy]; exact h0
      obtain ⟨b9, b10, ih⟩ := l_deu (V := V) (h := h) (a0 := a0) (a1 := a1) (a2 := a2) (a3 := a3) (a4 := a4) (a5 := a5) (a6 := a6) (a7 := a7) f y (x % y) (some (.int (nI (x % y)))) he hy (Nat.lt_of_le_of_lt (Nat.mod_le _ _) hx)
      refine ⟨b9, b10, ?_⟩
      rw [← ih, r198_92]
      simp only [r198_0, r198_1, r198_2, r198_3, r198_4, r198_6, r198_7, r198_8, r198_11, r198_14, r198_17, r198_19, r198_21, r198_24, r198_26, r198_27, r198_28, r198_30, r198_31, r198_33, r198_34, r198_36, r198_38, r198_41, r198_44, r198_46, r198_49, r198_51, r198_54, r198_57, r198_59, r198_60, r198_61, r198_62, r198_64, r198_67, r198_70, r198_71, r198_74, r198_75, r198_76, r198_78, r198_81, r198_84, r198_86, r198_88, r198_90, r198_94, r198_97, r198_99, r198_101, r198_102, r198_104, r198_106, r198_108, r198_110, r198_112, r198_116, r198_118, r198_120, r198_121, r198_122, r198_125, r198_126, r198_128, r198_130, r198_131, r198_132, r198_135, r198_137, Option.bind_some, Option.toList_some, Option.toList_none, List.cons_append, List.nil_append, mj_rfs, mj_rfn, if_true, if_false, not_true_eq_false, not_false_eq_true, true_or, or_true, mj_b_0, mj_b_1, mj_b_01, Decidable.not_not, and_self, and_true, true_and, and_false, false_and, or_false, false_or, or_self, m51_cls, m51_places, m51_rowSize, m51_bytes, m51_textSize, m51_today, m51_pages, m51_kind, m51_number, m51_till, m51_signed, m51_keys, m51_many, m51_sums, m51_lends, m51_names, m51_alsoNames, m51_has, m51_isThere, m51_order, m51_steps, m51_looksAtNumbers, m51_looksAtDays, m51_hasTwo, m51_took, m51_runs, m51_refusals, m51_asked, m51_upper, m51_lower, m51_finding, m51_findings, m51_letters, m51_lettersMany, m51_looks, m51_copies, m51_kept, m51_four, m51_h, d_in, i64, d_tell, d_isMade, d_find1, d_find2, d_find3, d_find4, d_find5, tl_m99, tl_m1, tl_0, tl_1, tl_3, tl_4, tl_5, tl_6, tl_7, tl_9, tl_10, tl_17, tl_31, tl_40, tl_99, tl_999, tl_1023, Int32.lt_iff_toInt_lt, Int32.le_iff_toInt_le, ti_m99, ti_m9, ti_m4, ti_m3, ti_m2, ti_m1, ti_0, ti_1, ti_2, ti_3, ti_4, ti_5, ti_6, ti_7, ti_8, ti_9, ti_10, ti_11, ti_16, ti_20, ti_30, ti_32, ti_35, ti_40, ti_63, ti_64, ti_72, ti_76, ti_78, ti_82, ti_84, ti_99, ti_100, ti_111, ti_119, ti_125, ti_160, ti_200, ti_240, ti_256, ti_400, ti_999, ti_1000, ti_1024, nI_t hy, show ¬ ((y : Int) ≤ 0) by omega, hz, rem_nI hx hy (show 0 < y by omega)]
theorem l_csh {V : mj_V} {I I1 : hq_I} {J : hq_J} {ks : List Nat} {q sl r b wh n : Nat} {L : List Nat} {a2 a3 a5 : Option Value} (hwh : wh < 4) (hn : n < 11) (hv : vplan I1 7 L b) (hb : b < 8) (hL : ∀ w, w ∈ L → w < 5) (hR : ks[r]? = some 1) (hI : ∀ id, 1000 ≤ id → I1 id = I id) : ∀ (d i : Nat), i + d = 1024 → mj_ev V 73 53 [some (.ref (V.1 + 0)), some (.int (nI wh)), a2, a3, some (.int (nI n)), a5, some (.ref (V.1 + hq_pa ks r)), some (.int (nI (vsh (vhrm I r L b wh) n i).1)), some (.int (nI (vsh (vhrm I r L b wh) n i).2)), some (.int (nI i))] [] (hp V I1 J ks q sl) = mj_ev V 73 105 [some (.ref (V.1 + 0)), some (.int (nI wh)), a2, a3, some (.int (nI n)), a5, some (.ref (V.1 + hq_pa ks r)), some (.int (nI (vsh (vhrm I r L b wh) n 1024).1)), some (.int (nI (vsh (vhrm I r L b wh) n 1024).2)), some (.int (nI 1024))] [] (hp V I1 J ks q sl)
  | 0, i, hi => by
    obtain rfl : i = 1024 := by omega
    rw [r73_53]
    simp only [r73_0, r73_1, r73_4, r73_7, r73_9, r73_12, r73_14, r73_16, r73_19, r73_20, r73_21, r73_22, r73_23, r73_24, r73_27, r73_29, r73_31, r73_34, r73_36, r73_37, r73_38, r73_39, r73_42, r73_42n, r73_44, r73_45, r73_47, r73_48, r73_50, r73_51, r73_55, r73_58, r73_61, r73_63, r73_66, r73_68, r73_71, r73_74, r73_76, r73_77, r73_77n, r73_79, r73_80, r73_83, r73_85, r73_88, r73_91, r73_92, r73_95, r73_96, r73_97, r73_99, r73_102, r73_106, r73_108, r73_110, r73_113, r73_115, Option.bind_some, Option.toList_some, Option.toList_none, List.cons_append, List.nil_append, mj_rfs, mj_rfn, if_true, if_false, not_true_eq_false, not_false_eq_true, true_or, or_true, mj_b_0, mj_b_1, mj_b_01, Decidable.not_not, and_self, and_true, true_and, and_false, false_and, or_false, false_or, or_self, c0_cls, c0_rows, c0_texts, c0_pages, c0_machines, c0_refusals, c0_findingTimes, c0_triedPlan, c0_triedHeld, c0_made, c0_pageCount, c0_day, c0_latestFinding, c0_latestAsked, c0_latestUpper, c0_latestLower, c_isRow, c_isText, c_isMachine, c_isFile, c_isSet, c_isWhy, c_isHarm, c_isWrites, c_isHead, c_max, c_min, c_found1, c_found2, c_found3, c_found4, c_found5, Int32.lt_iff_toInt_lt, Int32.le_iff_toInt_le, ti_m99, ti_m9, ti_m4, ti_m3, ti_m2, ti_m1, ti_0, ti_1, ti_2, ti_3, ti_4, ti_5, ti_6, ti_7, ti_8, ti_9, ti_10, ti_11, ti_16, ti_20, ti_30, ti_32, ti_35, ti_40, ti_63, ti_64, ti_72, ti_76, ti_78, ti_82, ti_84, ti_99, ti_100, ti_111, ti_119, ti_125, ti_160, ti_200, ti_240, ti_256, ti_400, ti_999, ti_1000, ti_1024, show (1024 : Int) ≤ (nI 1024).toInt by decide]
  | d + 1, i, hi => by
    have C := c_doesHarm (V := V) (I := I1) (J := J) (q := q) (sl := sl) (s := i) hwh hv hb hL hR
    rw [vhrm_cg hI] at C
    have h10 := b10_le i
    have ih := l_csh (V := V) (J := J) (q := q) (sl := sl) (a2 := a2) (a3 := a3) (a5 := a5) hwh hn hv hb hL hR hI d (i + 1) (by omega)
    by_cases he : b10 i = n
    · have hq : (nI (b10 i) = nI n) = True := by rw [he]; exact eq_self _
      rw [vsh_y he] at ih
      rw [r73_53]
      cases hx : vhrm I r L b wh i with
      | true =>
        rw [hx] at C
        rw [hx, if_pos rfl] at ih
        simp only [r73_0, r73_1, r73_4, r73_7, r73_9, r73_12, r73_14, r73_16, r73_19, r73_20, r73_21, r73_22, r73_23, r73_24, r73_27, r73_29, r73_31, r73_34, r73_36, r73_37, r73_38, r73_39, r73_42, r73_42n, r73_44, r73_45, r73_47, r73_48, r73_50, r73_51, r73_55, r73_58, r73_61, r73_63, r73_66, r73_68, r73_71, r73_74, r73_76, r73_77, r73_77n, r73_79, r73_80, r73_83, r73_85, r73_88, r73_91, r73_92, r73_95, r73_96, r73_97, r73_99, r73_102, r73_106, r73_108, r73_110, r73_113, r73_115, Option.bind_some, Option.toList_some, Option.toList_none, List.cons_append, List.nil_append, mj_rfs, mj_rfn, if_true, if_false, not_true_eq_false, not_false_eq_true, true_or, or_true, mj_b_0, mj_b_1, mj_b_01, Decidable.not_not, and_self, and_true, true_and, and_false, false_and, or_false, false_or, or_self, c0_cls, c0_rows, c0_texts, c0_pages, c0_machines, c0_refusals, c0_findingTimes, c0_triedPlan, c0_triedHeld, c0_made, c0_pageCount, c0_day, c0_latestFinding, c0_latestAsked, c0_latestUpper, c0_latestLower, c_isRow, c_isText, c_isMachine, c_isFile, c_isSet, c_isWhy, c_isHarm, c_isWrites, c_isHead, c_max, c_min, c_found1, c_found2, c_found3, c_found4, c_found5, Int32.lt_iff_toInt_lt, Int32.le_iff_toInt_le, ti_m99, ti_m9, ti_m4, ti_m3, ti_m2, ti_m1, ti_0, ti_1, ti_2, ti_3, ti_4, ti_5, ti_6, ti_7, ti_8, ti_9, ti_10, ti_11, ti_16, ti_20, ti_30, ti_32, ti_35, ti_40, ti_63, ti_64, ti_72, ti_76, ti_78, ti_82, ti_84, ti_99, ti_100, ti_111, ti_119, ti_125, ti_160, ti_200, ti_240, ti_256, ti_400, ti_999, ti_1000, ti_1024, nI_t (show i < 2 ^ 31 by omega), show ¬ ((1024 : Int) ≤ (i : Int)) by omega, c_bitCount (show i < 1024 by omega), hq, C, bi_t, i10, nI_1]
        exact ih
      | false =>
        rw [hx] at C
        rw [hx, if_neg (by decide)] at ih
        simp only [r73_0, r73_1, r73_4, r73_7, r73_9, r73_12, r73_14, r73_16, r73_19, r73_20, r73_21, r73_22, r73_23, r73_24, r73_27, r73_29, r73_31, r73_34, r73_36, r73_37, r73_38, r73_39, r73_42, r73_42n, r73_44, r73_45, r73_47, r73_48, r73_50, r73_51, r73_55, r73_58, r73_61, r73_63, r73_66, r73_68, r73_71, r73_74, r73_76, r73_77, r73_77n, r73_79, r73_80, r73_83, r73_85, r73_88, r73_91, r73_92, r73_95, r73_96, r73_97, r73_99, r73_102, r73_106, r73_108, r73_110, r73_113, r73_115, Option.bind_some, Option.toList_some, Option.toList_none, List.cons_append, List.nil_append, mj_rfs, mj_rfn, if_true, if_false, not_true_eq_false, not_false_eq_true, true_or, or_true, mj_b_0, mj_b_1, mj_b_01, Decidable.not_not, and_self, and_true, true_and, and_false, false_and, or_false, false_or, or_self, c0_cls, c0_rows, c0_texts, c0_pages, c0_machines, c0_refusals, c0_findingTimes, c0_triedPlan, c0_triedHeld, c0_made, c0_pageCount, c0_day, c0_latestFinding, c0_latestAsked, c0_latestUpper, c0_latestLower, c_isRow, c_isText, c_isMachine, c_isFile, c_isSet, c_isWhy, c_isHarm, c_isWrites, c_isHead, c_max, c_min, c_found1, c_found2, c_found3, c_found4, c_found5, Int32.lt_iff_toInt_lt, Int32.le_iff_toInt_le, ti_m99, ti_m9, ti_m4, ti_m3, ti_m2, ti_m1, ti_0, ti_1, ti_2, ti_3, ti_4, ti_5, ti_6, ti_7, ti_8, ti_9, ti_10, ti_11, ti_16, ti_20, ti_30, ti_32, ti_35, ti_40, ti_63, ti_64, ti_72, ti_76, ti_78, ti_82, ti_84, ti_99, ti_100, ti_111, ti_119, ti_125, ti_160, ti_200, ti_240, ti_256, ti_400, ti_999, ti_1000, ti_1024, nI_t (show i < 2 ^ 31 by omega), show ¬ ((1024 : Int) ≤ (i : Int)) by omega, c_bitCount (show i < 1024 by omega), hq, C, bi_f, eq_self, nI_1, Int32.add_zero]
        exact ih
    · have hq : (nI (b10 i) = nI n) = False := by rw [nI_eqn (by omega) (by omega)]; exact eq_false he
      rw [vsh_n he] at ih
      rw [r73_53]
      simp only [r73_0, r73_1, r73_4, r73_7, r73_9, r73_12, r73_14, r73_16, r73_19, r73_20, r73_21, r73_22, r73_23, r73_24, r73_27, r73_29, r73_31, r73_34, r73_36, r73_37, r73_38, r73_39, r73_42, r73_42n, r73_44, r73_45, r73_47, r73_48, r73_50, r73_51, r73_55, r73_58, r73_61, r73_63, r73_66, r73_68, r73_71, r73_74, r73_76, r73_77, r73_77n, r73_79, r73_80, r73_83, r73_85, r73_88, r73_91, r73_92, r73_95, r73_96, r73_97, r73_99, r73_102, r73_106, r73_108, r73_110, r73_113, r73_115, Option.bind_some, Option.toList_some, Option.toList_none, List.cons_append, List.nil_append, mj_rfs, mj_rfn, if_true, if_false, not_true_eq_false, not_false_eq_true, true_or, or_true, mj_b_0, mj_b_1, mj_b_01, Decidable.not_not, and_self, and_true, true_and, and_false, false_and, or_false, false_or, or_self, c0_cls, c0_rows, c0_texts, c0_pages, c0_machines, c0_refusals, c0_findingTimes, c0_triedPlan, c0_triedHeld, c0_made, c0_pageCount, c0_day, c0_latestFinding, c0_latestAsked, c0_latestUpper, c0_latestLower, c_isRow, c_isText, c_isMachine, c_isFile, c_isSet, c_isWhy, c_isHarm, c_isWrites, c_isHead, c_max, c_min, c_found1, c_found2, c_found3, c_found4, c_found5, Int32.lt_iff_toInt_lt, Int32.le_iff_toInt_le, ti_m99, ti_m9, ti_m4, ti_m3, ti_m2, ti_m1, ti_0, ti_1, ti_2, ti_3, ti_4, ti_5, ti_6, ti_7, ti_8, ti_9, ti_10, ti_11, ti_16, ti_20, ti_30, ti_32, ti_35, ti_40, ti_63, ti_64, ti_72, ti_76, ti_78, ti_82, ti_84, ti_99, ti_100, ti_111, ti_119, ti_125, ti_160, ti_200, ti_240, ti_256, ti_400, ti_999, ti_1000, ti_1024, nI_t (show i < 2 ^ 31 by omega), show ¬ ((1024 : Int) ≤ (i : Int)) by omega, c_bitCount (show i < 1024 by omega), hq, nI_1]
      exact ih
theorem l_dsh {V : mj_V} {I Id : hq_I} {J : hq_J} {ks : List Nat} {q sl r b wh n : Nat} {L : List Nat} {a3 a5 : Option Value} (hwh : wh < 4) (hn : n < 11) (hb : b < 8) (hv : vmp Id L b) (hL : ∀ w, w ∈ L → w < 5) (hL5 : L.length ≤ 5) (hvr : vP1 I r 1) (hr0 : r < 40) (hk : Id 60 = I 60 ∧ Id 61 = I 61) : ∀ (d i : Nat), i + d = 1024 → mj_ev V 198 36 [some (.ref (V.1 + 51)), some (.int (nI wh)), some (.int (nI r)), a3, some (.int (nI n)), a5, some (.int (nI (vsh (vhrm I r L b wh) n i).2)), some (.int (nI (vsh (vhrm I r L b wh) n i).1)), some (.int (nI i)), none, none] [] (hp V Id J ks q sl) = mj_ev V 198 84 [some (.ref (V.1 + 51)), some (.int (nI wh)), some (.int (nI r)), a3, some (.int (nI n)), a5, some (.int (nI (vsh (vhrm I r L b wh) n 1024).2)), some (.int (nI (vsh (vhrm I r L b wh) n 1024).1)), some (.int (nI 1024)), none, none] [] (hp V Id J ks q sl)
  | 0, i, hi => by
    obtain rfl : i = 1024 := by omega
    rw [r198_36]
    simp only [r198_0, r198_1, r198_2, r198_3, r198_4, r198_6, r198_7, r198_8, r198_11, r198_14, r198_17, r198_19, r198_21, r198_24, r198_26, r198_27, r198_28, r198_30, r198_31, r198_33, r198_34, r198_38, r198_41, r198_44, r198_46, r198_49, r198_51, r198_54, r198_57, r198_59, r198_60, r198_61, r198_62, r198_64, r198_67, r198_70, r198_71, r198_74, r198_75, r198_76, r198_78, r198_81, r198_86, r198_88, r198_90, r198_92, r198_94, r198_97, r198_99, r198_101, r198_102, r198_104, r198_106, r198_108, r198_110, r198_112, r198_115, r198_116, r198_118, r198_120, r198_121, r198_122, r198_125, r198_126, r198_128, r198_130, r198_131, r198_132, r198_135, r198_137, Option.bind_some, Option.toList_some, Option.toList_none, List.cons_append, List.nil_append, mj_rfs, mj_rfn, if_true, if_false, not_true_eq_false, not_false_eq_true, true_or, or_true, mj_b_0, mj_b_1, mj_b_01, Decidable.not_not, and_self, and_true, true_and, and_false, false_and, or_false, false_or, or_self, m51_cls, m51_places, m51_rowSize, m51_bytes, m51_textSize, m51_today, m51_pages, m51_kind, m51_number, m51_till, m51_signed, m51_keys, m51_many, m51_sums, m51_lends, m51_names, m51_alsoNames, m51_has, m51_isThere, m51_order, m51_steps, m51_looksAtNumbers, m51_looksAtDays, m51_hasTwo, m51_took, m51_runs, m51_refusals, m51_asked, m51_upper, m51_lower, m51_finding, m51_findings, m51_letters, m51_lettersMany, m51_looks, m51_copies, m51_kept, m51_four, m51_h, d_in, i64, d_tell, d_isMade, d_find1, d_find2, d_find3, d_find4, d_find5, tl_m99, tl_m1, tl_0, tl_1, tl_3, tl_4, tl_5, tl_6, tl_7, tl_9, tl_10, tl_17, tl_31, tl_40, tl_99, tl_999, tl_1023, Int32.lt_iff_toInt_lt, Int32.le_iff_toInt_le, ti_m99, ti_m9, ti_m4, ti_m3, ti_m2, ti_m1, ti_0, ti_1, ti_2, ti_3, ti_4, ti_5, ti_6, ti_7, ti_8, ti_9, ti_10, ti_11, ti_16, ti_20, ti_30, ti_32, ti_35, ti_40, ti_63, ti_64, ti_72, ti_76, ti_78, ti_82, ti_84, ti_99, ti_100, ti_111, ti_119, ti_125, ti_160, ti_200, ti_240, ti_256, ti_400, ti_999, ti_1000, ti_1024, show (1024 : Int) ≤ (nI 1024).toInt by decide]
  | d + 1, i, hi => by
    have C := d_isDone (V := V) (I := I) (Id := Id) (J := J) (ks := ks) (q := q) (sl := sl) (s := i) hwh hb hv hL hL5 hvr hr0 (by omega) hk
    have h10 := b10_le i
    have ih := l_dsh (V := V) (J := J) (ks := ks) (q := q) (sl := sl) (a3 := a3) (a5 := a5) hwh hn hb hv hL hL5 hvr hr0 hk d (i + 1) (by omega)
    by_cases he : b10 i = n
    · have hq : (nI (b10 i) = nI n) = True := by rw [he]; exact eq_self _
      rw [vsh_y he] at ih
      rw [r198_36]
      cases hx : vhrm I r L b wh i with
      | true =>
        rw [hx] at C
        rw [hx, if_pos rfl] at ih
        simp only [r198_0, r198_1, r198_2, r198_3, r198_4, r198_6, r198_7, r198_8, r198_11, r198_14, r198_17, r198_19, r198_21, r198_24, r198_26, r198_27, r198_28, r198_30, r198_31, r198_33, r198_34, r198_38, r198_41, r198_44, r198_46, r198_49, r198_51, r198_54, r198_57, r198_59, r198_60, r198_61, r198_62, r198_64, r198_67, r198_70, r198_71, r198_74, r198_75, r198_76, r198_78, r198_81, r198_86, r198_88, r198_90, r198_92, r198_94, r198_97, r198_99, r198_101, r198_102, r198_104, r198_106, r198_108, r198_110, r198_112, r198_115, r198_116, r198_118, r198_120, r198_121, r198_122, r198_125, r198_126, r198_128, r198_130, r198_131, r198_132, r198_135, r198_137, Option.bind_some, Option.toList_some, Option.toList_none, List.cons_append, List.nil_append, mj_rfs, mj_rfn, if_true, if_false, not_true_eq_false, not_false_eq_true, true_or, or_true, mj_b_0, mj_b_1, mj_b_01, Decidable.not_not, and_self, and_true, true_and, and_false, false_and, or_false, false_or, or_self, m51_cls, m51_places, m51_rowSize, m51_bytes, m51_textSize, m51_today, m51_pages, m51_kind, m51_number, m51_till, m51_signed, m51_keys, m51_many, m51_sums, m51_lends, m51_names, m51_alsoNames, m51_has, m51_isThere, m51_order, m51_steps, m51_looksAtNumbers, m51_looksAtDays, m51_hasTwo, m51_took, m51_runs, m51_refusals, m51_asked, m51_upper, m51_lower, m51_finding, m51_findings, m51_letters, m51_lettersMany, m51_looks, m51_copies, m51_kept, m51_four, m51_h, d_in, i64, d_tell, d_isMade, d_find1, d_find2, d_find3, d_find4, d_find5, tl_m99, tl_m1, tl_0, tl_1, tl_3, tl_4, tl_5, tl_6, tl_7, tl_9, tl_10, tl_17, tl_31, tl_40, tl_99, tl_999, tl_1023, Int32.lt_iff_toInt_lt, Int32.le_iff_toInt_le, ti_m99, ti_m9, ti_m4, ti_m3, ti_m2, ti_m1, ti_0, ti_1, ti_2, ti_3, ti_4, ti_5, ti_6, ti_7, ti_8, ti_9, ti_10, ti_11, ti_16, ti_20, ti_30, ti_32, ti_35, ti_40, ti_63, ti_64, ti_72, ti_76, ti_78, ti_82, ti_84, ti_99, ti_100, ti_111, ti_119, ti_125, ti_160, ti_200, ti_240, ti_256, ti_400, ti_999, ti_1000, ti_1024, nI_t (show i < 2 ^ 31 by omega), show ¬ ((1024 : Int) ≤ (i : Int)) by omega, d_bits (show i < 1024 by omega), hq, C, bi_t, i10, nI_1]
        exact ih
      | false =>
        rw [hx] at C
        rw [hx, if_neg (by decide)] at ih
        simp only [r198_0, r198_1, r198_2, r198_3, r198_4, r198_6, r198_7, r198_8, r198_11, r198_14, r198_17, r198_19, r198_21, r198_24, r198_26, r198_27, r198_28, r198_30, r198_31, r198_33, r198_34, r198_38, r198_41, r198_44, r198_46, r198_49, r198_51, r198_54, r198_57, r198_59, r198_60, r198_61, r198_62, r198_64, r198_67, r198_70, r198_71, r198_74, r198_75, r198_76, r198_78, r198_81, r198_86, r198_88, r198_90, r198_92, r198_94, r198_97, r198_99, r198_101, r198_102, r198_104, r198_106, r198_108, r198_110, r198_112, r198_115, r198_116, r198_118, r198_120, r198_121, r198_122, r198_125, r198_126, r198_128, r198_130, r198_131, r198_132, r198_135, r198_137, Option.bind_some, Option.toList_some, Option.toList_none, List.cons_append, List.nil_append, mj_rfs, mj_rfn, if_true, if_false, not_true_eq_false, not_false_eq_true, true_or, or_true, mj_b_0, mj_b_1, mj_b_01, Decidable.not_not, and_self, and_true, true_and, and_false, false_and, or_false, false_or, or_self, m51_cls, m51_places, m51_rowSize, m51_bytes, m51_textSize, m51_today, m51_pages, m51_kind, m51_number, m51_till, m51_signed, m51_keys, m51_many, m51_sums, m51_lends, m51_names, m51_alsoNames, m51_has, m51_isThere, m51_order, m51_steps, m51_looksAtNumbers, m51_looksAtDays, m51_hasTwo, m51_took, m51_runs, m51_refusals, m51_asked, m51_upper, m51_lower, m51_finding, m51_findings, m51_letters, m51_lettersMany, m51_looks, m51_copies, m51_kept, m51_four, m51_h, d_in, i64, d_tell, d_isMade, d_find1, d_find2, d_find3, d_find4, d_find5, tl_m99, tl_m1, tl_0, tl_1, tl_3, tl_4, tl_5, tl_6, tl_7, tl_9, tl_10, tl_17, tl_31, tl_40, tl_99, tl_999, tl_1023, Int32.lt_iff_toInt_lt, Int32.le_iff_toInt_le, ti_m99, ti_m9, ti_m4, ti_m3, ti_m2, ti_m1, ti_0, ti_1, ti_2, ti_3, ti_4, ti_5, ti_6, ti_7, ti_8, ti_9, ti_10, ti_11, ti_16, ti_20, ti_30, ti_32, ti_35, ti_40, ti_63, ti_64, ti_72, ti_76, ti_78, ti_82, ti_84, ti_99, ti_100, ti_111, ti_119, ti_125, ti_160, ti_200, ti_240, ti_256, ti_400, ti_999, ti_1000, ti_1024, nI_t (show i < 2 ^ 31 by omega), show ¬ ((1024 : Int) ≤ (i : Int)) by omega, d_bits (show i < 1024 by omega), hq, C, bi_f, eq_self, nI_1, Int32.add_zero]
        exact ih
    · have hq : (nI (b10 i) = nI n) = False := by rw [nI_eqn (by omega) (by omega)]; exact eq_false he
      rw [vsh_n he] at ih
      rw [r198_36]
      simp only [r198_0, r198_1, r198_2, r198_3, r198_4, r198_6, r198_7, r198_8, r198_11, r198_14, r198_17, r198_19, r198_21, r198_24, r198_26, r198_27, r198_28, r198_30, r198_31, r198_33, r198_34, r198_38, r198_41, r198_44, r198_46, r198_49, r198_51, r198_54, r198_57, r198_59, r198_60, r198_61, r198_62, r198_64, r198_67, r198_70, r198_71, r198_74, r198_75, r198_76, r198_78, r198_81, r198_86, r198_88, r198_90, r198_92, r198_94, r198_97, r198_99, r198_101, r198_102, r198_104, r198_106, r198_108, r198_110, r198_112, r198_115, r198_116, r198_118, r198_120, r198_121, r198_122, r198_125, r198_126, r198_128, r198_130, r198_131, r198_132, r198_135, r198_137, Option.bind_some, Option.toList_some, Option.toList_none, List.cons_append, List.nil_append, mj_rfs, mj_rfn, if_true, if_false, not_true_eq_false, not_false_eq_true, true_or, or_true, mj_b_0, mj_b_1, mj_b_01, Decidable.not_not, and_self, and_true, true_and, and_false, false_and, or_false, false_or, or_self, m51_cls, m51_places, m51_rowSize, m51_bytes, m51_textSize, m51_today, m51_pages, m51_kind, m51_number, m51_till, m51_signed, m51_keys, m51_many, m51_sums, m51_lends, m51_names, m51_alsoNames, m51_has, m51_isThere, m51_order, m51_steps, m51_looksAtNumbers, m51_looksAtDays, m51_hasTwo, m51_took, m51_runs, m51_refusals, m51_asked, m51_upper, m51_lower, m51_finding, m51_findings, m51_letters, m51_lettersMany, m51_looks, m51_copies, m51_kept, m51_four, m51_h, d_in, i64, d_tell, d_isMade, d_find1, d_find2, d_find3, d_find4, d_find5, tl_m99, tl_m1, tl_0, tl_1, tl_3, tl_4, tl_5, tl_6, tl_7, tl_9, tl_10, tl_17, tl_31, tl_40, tl_99, tl_999, tl_1023, Int32.lt_iff_toInt_lt, Int32.le_iff_toInt_le, ti_m99, ti_m9, ti_m4, ti_m3, ti_m2, ti_m1, ti_0, ti_1, ti_2, ti_3, ti_4, ti_5, ti_6, ti_7, ti_8, ti_9, ti_10, ti_11, ti_16, ti_20, ti_30, ti_32, ti_35, ti_40, ti_63, ti_64, ti_72, ti_76, ti_78, ti_82, ti_84, ti_99, ti_100, ti_111, ti_119, ti_125, ti_160, ti_200, ti_240, ti_256, ti_400, ti_999, ti_1000, ti_1024, nI_t (show i < 2 ^ 31 by omega), show ¬ ((1024 : Int) ≤ (i : Int)) by omega, d_bits (show i < 1024 by omega), hq, nI_1]
      exact ih
