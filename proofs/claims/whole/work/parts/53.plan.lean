/-! what a text says: the class's side -/
/-- which role a letter asks for -/
def vro (x : Int32) : Option Nat := if x = 82 then some 0 else if x = 72 then some 1 else if x = 84 then some 2 else if x = 76 then some 3 else if x = 78 then some 4 else none
def vha (x : Int32) : Nat := if x = 111 then 1 else if x = 100 then 2 else if x = 119 then 4 else 0
theorem vro_lt {x : Int32} {w : Nat} (h : vro x = some w) : w < 5 := by
  unfold vro at h
  split at h
  · cases h; omega
  · split at h
    · cases h; omega
    · split at h
      · cases h; omega
      · split at h
        · cases h; omega
        · split at h
          · cases h; omega
          · cases h
theorem vha_ex (x : Int32) : vha x = 0 ∨ vha x = 1 ∨ vha x = 2 ∨ vha x = 4 := by
  unfold vha
  split
  · omega
  · split
    · omega
    · split <;> omega
def vrv (x : Int32) : Int32 := match vro x with
  | some w => nI w
  | none => -9
theorem c_role {V : mj_V} {h : mj_H} (x : Int32) : mj_ev V 20 0 [some (.int x)] [] h = some (some (.int (vrv x)), h) := by
  by_cases hx : x.toInt < 72 ∨ 84 < x.toInt
  · have e : vro x = none := by
      unfold vro
      rw [if_neg (fun e => by rw [e, ti_82] at hx; omega), if_neg (fun e => by rw [e, ti_72] at hx; omega), if_neg (fun e => by rw [e, ti_84] at hx; omega), if_neg (fun e => by rw [e, ti_76] at hx; omega), if_neg (fun e => by rw [e, ti_78] at hx; omega)]
    have e2 : vrv x = -9 := by unfold vrv; rw [e]
    rw [e2]
    simp only [r20_0, r20_1d hx, r20_78, r20_80]
  · obtain ⟨n, hn, rfl⟩ := nI_ex (x := x) (n := 85) (by decide) (by omega)
    rw [nI_t (by omega)] at hx
    rcases (show n = 72 ∨ n = 73 ∨ n = 74 ∨ n = 75 ∨ n = 76 ∨ n = 77 ∨ n = 78 ∨ n = 79 ∨ n = 80 ∨ n = 81 ∨ n = 82 ∨ n = 83 ∨ n = 84 by omega) with rfl | rfl | rfl | rfl | rfl | rfl | rfl | rfl | rfl | rfl | rfl | rfl | rfl
    · show mj_ev V 20 0 [some (.int (72 : Int32))] [] h = some (some (.int (vrv (72 : Int32))), h)
      simp only [r20_0, r20_1c72, r20_70, r20_71]
      rfl
    · show mj_ev V 20 0 [some (.int (73 : Int32))] [] h = some (some (.int (vrv (73 : Int32))), h)
      simp only [r20_0, r20_1c73, r20_78, r20_80]
      rfl
    · show mj_ev V 20 0 [some (.int (74 : Int32))] [] h = some (some (.int (vrv (74 : Int32))), h)
      simp only [r20_0, r20_1c74, r20_78, r20_80]
      rfl
    · show mj_ev V 20 0 [some (.int (75 : Int32))] [] h = some (some (.int (vrv (75 : Int32))), h)
      simp only [r20_0, r20_1c75, r20_78, r20_80]
      rfl
    · show mj_ev V 20 0 [some (.int (76 : Int32))] [] h = some (some (.int (vrv (76 : Int32))), h)
      simp only [r20_0, r20_1c76, r20_74, r20_75]
      rfl
    · show mj_ev V 20 0 [some (.int (77 : Int32))] [] h = some (some (.int (vrv (77 : Int32))), h)
      simp only [r20_0, r20_1c77, r20_78, r20_80]
      rfl
    · show mj_ev V 20 0 [some (.int (78 : Int32))] [] h = some (some (.int (vrv (78 : Int32))), h)
      simp only [r20_0, r20_1c78, r20_76, r20_77]
      rfl
    · show mj_ev V 20 0 [some (.int (79 : Int32))] [] h = some (some (.int (vrv (79 : Int32))), h)
      simp only [r20_0, r20_1c79, r20_78, r20_80]
      rfl
    · show mj_ev V 20 0 [some (.int (80 : Int32))] [] h = some (some (.int (vrv (80 : Int32))), h)
      simp only [r20_0, r20_1c80, r20_78, r20_80]
      rfl
    · show mj_ev V 20 0 [some (.int (81 : Int32))] [] h = some (some (.int (vrv (81 : Int32))), h)
      simp only [r20_0, r20_1c81, r20_78, r20_80]
      rfl
    · show mj_ev V 20 0 [some (.int (82 : Int32))] [] h = some (some (.int (vrv (82 : Int32))), h)
      simp only [r20_0, r20_1c82, r20_68, r20_69]
      rfl
    · show mj_ev V 20 0 [some (.int (83 : Int32))] [] h = some (some (.int (vrv (83 : Int32))), h)
      simp only [r20_0, r20_1c83, r20_78, r20_80]
      rfl
    · show mj_ev V 20 0 [some (.int (84 : Int32))] [] h = some (some (.int (vrv (84 : Int32))), h)
      simp only [r20_0, r20_1c84, r20_72, r20_73]
      rfl
theorem c_habit {V : mj_V} {h : mj_H} (x : Int32) : mj_ev V 21 0 [some (.int x)] [] h = some (some (.int (nI (vha x))), h) := by
  unfold vha
  by_cases h1 : x = 111
  · subst h1
    simp only [r21_0, r21_1c100, r21_1c111, r21_1c119, r21_1d, r21_36, r21_37, r21_38, r21_39, r21_40, r21_41, r21_42, r21_43, Option.bind_some, Option.toList_some, Option.toList_none, List.cons_append, List.nil_append, mj_rfs, mj_rfn, if_true, if_false, not_true_eq_false, not_false_eq_true, true_or, or_true, mj_b_0, mj_b_1, mj_b_01, Decidable.not_not, and_self, and_true, true_and, and_false, false_and, or_false, false_or, or_self, c0_cls, c0_rows, c0_texts, c0_pages, c0_machines, c0_refusals, c0_findingTimes, c0_triedPlan, c0_triedHeld, c0_made, c0_pageCount, c0_day, c0_latestFinding, c0_latestAsked, c0_latestUpper, c0_latestLower, c_isRow, c_isText, c_isMachine, c_isFile, c_isSet, c_isWhy, c_isHarm, c_isWrites, c_isHead, c_max, c_min, c_found1, c_found2, c_found3, c_found4, c_found5, Int32.lt_iff_toInt_lt, Int32.le_iff_toInt_le, ti_m99, ti_m9, ti_m4, ti_m3, ti_m2, ti_m1, ti_0, ti_1, ti_2, ti_3, ti_4, ti_5, ti_6, ti_7, ti_8, ti_9, ti_10, ti_11, ti_16, ti_20, ti_30, ti_32, ti_35, ti_40, ti_63, ti_64, ti_72, ti_76, ti_78, ti_82, ti_84, ti_99, ti_100, ti_111, ti_119, ti_125, ti_160, ti_200, ti_240, ti_256, ti_400, ti_999, ti_1000, ti_1024, if_true]
    rfl
  by_cases h2 : x = 100
  · subst h2
    rw [if_neg h1]
    simp only [r21_0, r21_1c100, r21_1c111, r21_1c119, r21_1d, r21_36, r21_37, r21_38, r21_39, r21_40, r21_41, r21_42, r21_43, Option.bind_some, Option.toList_some, Option.toList_none, List.cons_append, List.nil_append, mj_rfs, mj_rfn, if_true, if_false, not_true_eq_false, not_false_eq_true, true_or, or_true, mj_b_0, mj_b_1, mj_b_01, Decidable.not_not, and_self, and_true, true_and, and_false, false_and, or_false, false_or, or_self, c0_cls, c0_rows, c0_texts, c0_pages, c0_machines, c0_refusals, c0_findingTimes, c0_triedPlan, c0_triedHeld, c0_made, c0_pageCount, c0_day, c0_latestFinding, c0_latestAsked, c0_latestUpper, c0_latestLower, c_isRow, c_isText, c_isMachine, c_isFile, c_isSet, c_isWhy, c_isHarm, c_isWrites, c_isHead, c_max, c_min, c_found1, c_found2, c_found3, c_found4, c_found5, Int32.lt_iff_toInt_lt, Int32.le_iff_toInt_le, ti_m99, ti_m9, ti_m4, ti_m3, ti_m2, ti_m1, ti_0, ti_1, ti_2, ti_3, ti_4, ti_5, ti_6, ti_7, ti_8, ti_9, ti_10, ti_11, ti_16, ti_20, ti_30, ti_32, ti_35, ti_40, ti_63, ti_64, ti_72, ti_76, ti_78, ti_82, ti_84, ti_99, ti_100, ti_111, ti_119, ti_125, ti_160, ti_200, ti_240, ti_256, ti_400, ti_999, ti_1000, ti_1024, if_true]
    rfl
  by_cases h3 : x = 119
  · subst h3
    rw [if_neg h1, if_neg h2]
    simp only [r21_0, r21_1c100, r21_1c111, r21_1c119, r21_1d, r21_36, r21_37, r21_38, r21_39, r21_40, r21_41, r21_42, r21_43, Option.bind_some, Option.toList_some, Option.toList_none, List.cons_append, List.nil_append, mj_rfs, mj_rfn, if_true, if_false, not_true_eq_false, not_false_eq_true, true_or, or_true, mj_b_0, mj_b_1, mj_b_01, Decidable.not_not, and_self, and_true, true_and, and_false, false_and, or_false, false_or, or_self, c0_cls, c0_rows, c0_texts, c0_pages, c0_machines, c0_refusals, c0_findingTimes, c0_triedPlan, c0_triedHeld, c0_made, c0_pageCount, c0_day, c0_latestFinding, c0_latestAsked, c0_latestUpper, c0_latestLower, c_isRow, c_isText, c_isMachine, c_isFile, c_isSet, c_isWhy, c_isHarm, c_isWrites, c_isHead, c_max, c_min, c_found1, c_found2, c_found3, c_found4, c_found5, Int32.lt_iff_toInt_lt, Int32.le_iff_toInt_le, ti_m99, ti_m9, ti_m4, ti_m3, ti_m2, ti_m1, ti_0, ti_1, ti_2, ti_3, ti_4, ti_5, ti_6, ti_7, ti_8, ti_9, ti_10, ti_11, ti_16, ti_20, ti_30, ti_32, ti_35, ti_40, ti_63, ti_64, ti_72, ti_76, ti_78, ti_82, ti_84, ti_99, ti_100, ti_111, ti_119, ti_125, ti_160, ti_200, ti_240, ti_256, ti_400, ti_999, ti_1000, ti_1024, if_true]
    rfl
  rw [if_neg h1, if_neg h2, if_neg h3]
  simp only [r21_0, r21_1d h2 h1 h3, r21_42, r21_43]
  rfl
/-- blanks passed over -/
def vsk (f : Nat → Int32) : Nat → Nat → Nat
  | 0, i => i
  | d + 1, i => if f i = 32 then vsk f d (i + 1) else i
theorem vsk_le {f : Nat → Int32} : ∀ d i, i ≤ vsk f d i ∧ vsk f d i ≤ i + d
  | 0, i => ⟨Nat.le_refl _, Nat.le_refl _⟩
  | d + 1, i => by
    unfold vsk
    split
    · have := vsk_le (f := f) d (i + 1)
      omega
    · omega
theorem l_csk {V : mj_V} {I : hq_I} {J : hq_J} {ks : List Nat} {q sl : Nat} {t n : Nat} {a1 : Option Value} (ht : t < 4) (hn : n ≤ 40) (hs : I (23 + 2 * t) 23 = nI n) : ∀ d i : Nat, i + d = n → mj_ev V 17 2 [some (.ref (V.1 + (23 + 2 * t))), a1, some (.int (nI i))] [] (hp V I J ks q sl) = some (some (.int (nI (vsk (I (24 + 2 * t)) d i))), (hp V I J ks q sl))
  | 0, i, hi => by
    obtain rfl : i = n := by omega
    rw [r17_2]
    simp only [r17_0, r17_1, r17_3, r17_3n, r17_4, r17_7, r17_10, r17_10n, r17_11, r17_14, r17_15, r17_16, r17_18, r17_21, r17_24, r17_27, r17_28, Option.bind_some, Option.toList_some, Option.toList_none, List.cons_append, List.nil_append, mj_rfs, mj_rfn, if_true, if_false, not_true_eq_false, not_false_eq_true, true_or, or_true, mj_b_0, mj_b_1, mj_b_01, Decidable.not_not, and_self, and_true, true_and, and_false, false_and, or_false, false_or, or_self, c0_cls, c0_rows, c0_texts, c0_pages, c0_machines, c0_refusals, c0_findingTimes, c0_triedPlan, c0_triedHeld, c0_made, c0_pageCount, c0_day, c0_latestFinding, c0_latestAsked, c0_latestUpper, c0_latestLower, c_isRow, c_isText, c_isMachine, c_isFile, c_isSet, c_isWhy, c_isHarm, c_isWrites, c_isHead, c_max, c_min, c_found1, c_found2, c_found3, c_found4, c_found5, Int32.lt_iff_toInt_lt, Int32.le_iff_toInt_le, ti_m99, ti_m9, ti_m4, ti_m3, ti_m2, ti_m1, ti_0, ti_1, ti_2, ti_3, ti_4, ti_5, ti_6, ti_7, ti_8, ti_9, ti_10, ti_11, ti_16, ti_20, ti_30, ti_32, ti_35, ti_40, ti_63, ti_64, ti_72, ti_76, ti_78, ti_82, ti_84, ti_99, ti_100, ti_111, ti_119, ti_125, ti_160, ti_200, ti_240, ti_256, ti_400, ti_999, ti_1000, ti_1024, tx_size ht, hs, Int.le_refl, vsk]
  | d + 1, i, hi => by
    rw [r17_2]
    unfold vsk
    by_cases h : I (24 + 2 * t) i = 32
    · rw [if_pos h]
      simp only [r17_0, r17_1, r17_3, r17_3n, r17_4, r17_7, r17_10, r17_10n, r17_11, r17_14, r17_15, r17_16, r17_18, r17_21, r17_24, r17_27, r17_28, Option.bind_some, Option.toList_some, Option.toList_none, List.cons_append, List.nil_append, mj_rfs, mj_rfn, if_true, if_false, not_true_eq_false, not_false_eq_true, true_or, or_true, mj_b_0, mj_b_1, mj_b_01, Decidable.not_not, and_self, and_true, true_and, and_false, false_and, or_false, false_or, or_self, c0_cls, c0_rows, c0_texts, c0_pages, c0_machines, c0_refusals, c0_findingTimes, c0_triedPlan, c0_triedHeld, c0_made, c0_pageCount, c0_day, c0_latestFinding, c0_latestAsked, c0_latestUpper, c0_latestLower, c_isRow, c_isText, c_isMachine, c_isFile, c_isSet, c_isWhy, c_isHarm, c_isWrites, c_isHead, c_max, c_min, c_found1, c_found2, c_found3, c_found4, c_found5, Int32.lt_iff_toInt_lt, Int32.le_iff_toInt_le, ti_m99, ti_m9, ti_m4, ti_m3, ti_m2, ti_m1, ti_0, ti_1, ti_2, ti_3, ti_4, ti_5, ti_6, ti_7, ti_8, ti_9, ti_10, ti_11, ti_16, ti_20, ti_30, ti_32, ti_35, ti_40, ti_63, ti_64, ti_72, ti_76, ti_78, ti_82, ti_84, ti_99, ti_100, ti_111, ti_119, ti_125, ti_160, ti_200, ti_240, ti_256, ti_400, ti_999, ti_1000, ti_1024, tx_size ht, hs, nI_t (show i < 2 ^ 31 by omega), nI_t (show n < 2 ^ 31 by omega), show ¬ ((n : Int) ≤ (i : Int)) by omega, tx_bytes ht, tb_l ht rfl (show i < 40 by omega), h, nI_1, eq_self]
      exact l_csk ht hn hs d (i + 1) (by omega)
    · rw [if_neg h]
      simp only [r17_0, r17_1, r17_3, r17_3n, r17_4, r17_7, r17_10, r17_10n, r17_11, r17_14, r17_15, r17_16, r17_18, r17_21, r17_24, r17_27, r17_28, Option.bind_some, Option.toList_some, Option.toList_none, List.cons_append, List.nil_append, mj_rfs, mj_rfn, if_true, if_false, not_true_eq_false, not_false_eq_true, true_or, or_true, mj_b_0, mj_b_1, mj_b_01, Decidable.not_not, and_self, and_true, true_and, and_false, false_and, or_false, false_or, or_self, c0_cls, c0_rows, c0_texts, c0_pages, c0_machines, c0_refusals, c0_findingTimes, c0_triedPlan, c0_triedHeld, c0_made, c0_pageCount, c0_day, c0_latestFinding, c0_latestAsked, c0_latestUpper, c0_latestLower, c_isRow, c_isText, c_isMachine, c_isFile, c_isSet, c_isWhy, c_isHarm, c_isWrites, c_isHead, c_max, c_min, c_found1, c_found2, c_found3, c_found4, c_found5, Int32.lt_iff_toInt_lt, Int32.le_iff_toInt_le, ti_m99, ti_m9, ti_m4, ti_m3, ti_m2, ti_m1, ti_0, ti_1, ti_2, ti_3, ti_4, ti_5, ti_6, ti_7, ti_8, ti_9, ti_10, ti_11, ti_16, ti_20, ti_30, ti_32, ti_35, ti_40, ti_63, ti_64, ti_72, ti_76, ti_78, ti_82, ti_84, ti_99, ti_100, ti_111, ti_119, ti_125, ti_160, ti_200, ti_240, ti_256, ti_400, ti_999, ti_1000, ti_1024, tx_size ht, hs, nI_t (show i < 2 ^ 31 by omega), nI_t (show n < 2 ^ 31 by omega), show ¬ ((n : Int) ≤ (i : Int)) by omega, tx_bytes ht, tb_l ht rfl (show i < 40 by omega), h]
theorem c_skip {V : mj_V} {I : hq_I} {J : hq_J} {ks : List Nat} {q sl : Nat} {t n i : Nat} (ht : t < 4) (hn : n ≤ 40) (hs : I (23 + 2 * t) 23 = nI n) (hi : i ≤ n) : mj_ev V 17 0 [some (.ref (V.1 + (23 + 2 * t))), some (.int (nI i)), none] [] (hp V I J ks q sl) = some (some (.int (nI (vsk (I (24 + 2 * t)) (n - i) i))), (hp V I J ks q sl)) := by
  simp only [r17_0, r17_1, r17_3, r17_3n, r17_4, r17_7, r17_10, r17_10n, r17_11, r17_14, r17_15, r17_16, r17_18, r17_21, r17_24, r17_27, r17_28, Option.bind_some, Option.toList_some, Option.toList_none, List.cons_append, List.nil_append, mj_rfs, mj_rfn, if_true, if_false, not_true_eq_false, not_false_eq_true, true_or, or_true, mj_b_0, mj_b_1, mj_b_01, Decidable.not_not, and_self, and_true, true_and, and_false, false_and, or_false, false_or, or_self, c0_cls, c0_rows, c0_texts, c0_pages, c0_machines, c0_refusals, c0_findingTimes, c0_triedPlan, c0_triedHeld, c0_made, c0_pageCount, c0_day, c0_latestFinding, c0_latestAsked, c0_latestUpper, c0_latestLower, c_isRow, c_isText, c_isMachine, c_isFile, c_isSet, c_isWhy, c_isHarm, c_isWrites, c_isHead, c_max, c_min, c_found1, c_found2, c_found3, c_found4, c_found5, Int32.lt_iff_toInt_lt, Int32.le_iff_toInt_le, ti_m99, ti_m9, ti_m4, ti_m3, ti_m2, ti_m1, ti_0, ti_1, ti_2, ti_3, ti_4, ti_5, ti_6, ti_7, ti_8, ti_9, ti_10, ti_11, ti_16, ti_20, ti_30, ti_32, ti_35, ti_40, ti_63, ti_64, ti_72, ti_76, ti_78, ti_82, ti_84, ti_99, ti_100, ti_111, ti_119, ti_125, ti_160, ti_200, ti_240, ti_256, ti_400, ti_999, ti_1000, ti_1024, Option.bind_some]
  exact l_csk ht hn hs (n - i) i (by omega)
