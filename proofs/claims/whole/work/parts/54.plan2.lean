/-! what a text says: steps and habits -/
def msk (L : List Nat) : Nat := L.foldl (fun s w => s ||| 2 ^ w) 0
theorem msk_tb : ∀ (L : List Nat) (s w : Nat), (L.foldl (fun s w => s ||| 2 ^ w) s).testBit w = (s.testBit w || decide (w ∈ L))
  | [], s, w => by simp
  | a :: L, s, w => by
    rw [List.foldl_cons, msk_tb L, Nat.testBit_or, Nat.testBit_two_pow]
    by_cases h1 : a = w
    · subst h1
      simp
    · have h2 : ¬ w = a := fun e => h1 e.symm
      simp [h1, h2]
theorem msk_app (L : List Nat) (w : Nat) : msk (L ++ [w]) = msk L ||| 2 ^ w := by
  unfold msk
  rw [List.foldl_append]
  rfl
theorem msk_bit (L : List Nat) (w : Nat) : msk L / 2 ^ w % 2 = 1 ↔ w ∈ L := by
  have h := msk_tb L 0 w
  rw [Nat.testBit_eq_decide_div_mod_eq, Nat.zero_testBit, Bool.false_or] at h
  exact decide_eq_decide.mp h
theorem msk_lt : ∀ (L : List Nat) (s : Nat), s < 32 → (∀ w, w ∈ L → w < 5) → L.foldl (fun s w => s ||| 2 ^ w) s < 32
  | [], s, h, _ => h
  | a :: L, s, h, hL => by
    rw [List.foldl_cons]
    refine msk_lt L _ (Nat.or_lt_two_pow (n := 5) h ?_) (fun w hw => hL w (List.mem_cons_of_mem _ hw))
    exact Nat.pow_lt_pow_right (by omega) (hL a (List.mem_cons_self ..))
theorem msk_32 {L : List Nat} (h : ∀ w, w ∈ L → w < 5) : msk L < 32 := msk_lt L 0 (by omega) h
def vPl (P : Nat) : Prop := P = 7 ∨ P = 32 ∨ P = 37 ∨ P = 42 ∨ P = 47
section PL
variable {V : mj_V} {I : hq_I} {J : hq_J} {ks : List Nat} {q sl P : Nat}
theorem pP_cls (h : vPl P) : mj_cls V (hp V I J ks q sl) (V.1 + P) = some 5 := by
  rcases h with rfl | rfl | rfl | rfl | rfl <;> exact hp_cls rfl
theorem pP_ord (h : vPl P) : mj_fld V (hp V I J ks q sl) (V.1 + P) 13 = some (.ref (V.1 + (P + 1))) := by
  rcases h with rfl | rfl | rfl | rfl | rfl <;> exact hp_fr rfl
theorem pP_os (h : vPl P) {j : Nat} {x v : Int32} (hx : x = nI j) (hj : j < 5) : mj_ias V (hp V I J ks q sl) (V.1 + (P + 1)) x v = some (hp V (va_up I (P + 1) (upd (I (P + 1)) j v)) J ks q sl) := by
  rcases h with rfl | rfl | rfl | rfl | rfl <;> exact hp_ias (by omega) rfl hx hj (by decide)
theorem pP_ol (h : vPl P) {j : Nat} {x : Int32} (hx : x = nI j) (hj : j < 5) : mj_ial V (hp V I J ks q sl) (V.1 + (P + 1)) x = some (I (P + 1) j) := by
  rcases h with rfl | rfl | rfl | rfl | rfl <;> exact hp_ial (by omega) rfl hx hj (by decide)
theorem pP_14 (h : vPl P) : mj_fld V (hp V I J ks q sl) (V.1 + P) 14 = some (.int (I P 14)) := by
  rcases h with rfl | rfl | rfl | rfl | rfl <;> exact hp_fi rfl
theorem pP_14s (h : vPl P) {x : Int32} : mj_sfl V (hp V I J ks q sl) (V.1 + P) 14 (.int x) = some (hp V (va_up I P (upd (I P) 14 x)) J ks q sl) := by
  rcases h with rfl | rfl | rfl | rfl | rfl <;> exact hp_sfi rfl
theorem pP_15 (h : vPl P) : mj_fld V (hp V I J ks q sl) (V.1 + P) 15 = some (.int (I P 15)) := by
  rcases h with rfl | rfl | rfl | rfl | rfl <;> exact hp_fi rfl
theorem pP_15s (h : vPl P) {x : Int32} : mj_sfl V (hp V I J ks q sl) (V.1 + P) 15 (.int x) = some (hp V (va_up I P (upd (I P) 15 x)) J ks q sl) := by
  rcases h with rfl | rfl | rfl | rfl | rfl <;> exact hp_sfi rfl
theorem pP_16 (h : vPl P) : mj_fld V (hp V I J ks q sl) (V.1 + P) 16 = some (.int (I P 16)) := by
  rcases h with rfl | rfl | rfl | rfl | rfl <;> exact hp_fi rfl
theorem pP_16s (h : vPl P) {x : Int32} : mj_sfl V (hp V I J ks q sl) (V.1 + P) 16 (.int x) = some (hp V (va_up I P (upd (I P) 16 x)) J ks q sl) := by
  rcases h with rfl | rfl | rfl | rfl | rfl <;> exact hp_sfi rfl
theorem pP_17 (h : vPl P) : mj_fld V (hp V I J ks q sl) (V.1 + P) 17 = some (.int (I P 17)) := by
  rcases h with rfl | rfl | rfl | rfl | rfl <;> exact hp_fi rfl
theorem pP_17s (h : vPl P) {x : Int32} : mj_sfl V (hp V I J ks q sl) (V.1 + P) 17 (.int x) = some (hp V (va_up I P (upd (I P) 17 x)) J ks q sl) := by
  rcases h with rfl | rfl | rfl | rfl | rfl <;> exact hp_sfi rfl
theorem c_asks {s w : Nat} {x : Int32} (hP : vPl P) (e : I P 15 = nI s) (hs : s < 1024) (hw : w < 10) (hx : x = nI w) : mj_ev V 15 0 [some (.ref (V.1 + P)), some (.int x)] [] (hp V I J ks q sl) = some (some (.int (mj_b (s / 2 ^ w % 2 = 1))), (hp V I J ks q sl)) := by
  subst hx
  by_cases h : s / 2 ^ w % 2 = 0
  · have h1 : ¬ s / 2 ^ w % 2 = 1 := by omega
    simp only [r15_0, r15_1, r15_4, r15_5, r15_6, r15_7, r15_8, r15_11, r15_12, r15_15, r15_16, Option.bind_some, Option.toList_some, Option.toList_none, List.cons_append, List.nil_append, mj_rfs, mj_rfn, if_true, if_false, not_true_eq_false, not_false_eq_true, true_or, or_true, mj_b_0, mj_b_1, mj_b_01, Decidable.not_not, and_self, and_true, true_and, and_false, false_and, or_false, false_or, or_self, c0_cls, c0_rows, c0_texts, c0_pages, c0_machines, c0_refusals, c0_findingTimes, c0_triedPlan, c0_triedHeld, c0_made, c0_pageCount, c0_day, c0_latestFinding, c0_latestAsked, c0_latestUpper, c0_latestLower, c_isRow, c_isText, c_isMachine, c_isFile, c_isSet, c_isWhy, c_isHarm, c_isWrites, c_isHead, c_max, c_min, c_found1, c_found2, c_found3, c_found4, c_found5, Int32.lt_iff_toInt_lt, Int32.le_iff_toInt_le, ti_m99, ti_m9, ti_m4, ti_m3, ti_m2, ti_m1, ti_0, ti_1, ti_2, ti_3, ti_4, ti_5, ti_6, ti_7, ti_8, ti_9, ti_10, ti_11, ti_16, ti_20, ti_30, ti_32, ti_35, ti_40, ti_63, ti_64, ti_72, ti_76, ti_78, ti_82, ti_84, ti_99, ti_100, ti_111, ti_119, ti_125, ti_160, ti_200, ti_240, ti_256, ti_400, ti_999, ti_1000, ti_1024, pP_15 hP, e, bw_bit s hs w hw, bitz h, eq_self, h1, bF]
  · have h1 : s / 2 ^ w % 2 = 1 := by omega
    rw [mj_b_t h1]
    simp only [r15_0, r15_1, r15_4, r15_5, r15_6, r15_7, r15_8, r15_11, r15_12, r15_15, r15_16, Option.bind_some, Option.toList_some, Option.toList_none, List.cons_append, List.nil_append, mj_rfs, mj_rfn, if_true, if_false, not_true_eq_false, not_false_eq_true, true_or, or_true, mj_b_0, mj_b_1, mj_b_01, Decidable.not_not, and_self, and_true, true_and, and_false, false_and, or_false, false_or, or_self, c0_cls, c0_rows, c0_texts, c0_pages, c0_machines, c0_refusals, c0_findingTimes, c0_triedPlan, c0_triedHeld, c0_made, c0_pageCount, c0_day, c0_latestFinding, c0_latestAsked, c0_latestUpper, c0_latestLower, c_isRow, c_isText, c_isMachine, c_isFile, c_isSet, c_isWhy, c_isHarm, c_isWrites, c_isHead, c_max, c_min, c_found1, c_found2, c_found3, c_found4, c_found5, Int32.lt_iff_toInt_lt, Int32.le_iff_toInt_le, ti_m99, ti_m9, ti_m4, ti_m3, ti_m2, ti_m1, ti_0, ti_1, ti_2, ti_3, ti_4, ti_5, ti_6, ti_7, ti_8, ti_9, ti_10, ti_11, ti_16, ti_20, ti_30, ti_32, ti_35, ti_40, ti_63, ti_64, ti_72, ti_76, ti_78, ti_82, ti_84, ti_99, ti_100, ti_111, ti_119, ti_125, ti_160, ti_200, ti_240, ti_256, ti_400, ti_999, ti_1000, ti_1024, pP_15 hP, e, bw_bit s hs w hw, bit1 h, i10]
end PL
def vplan (I : hq_I) (P : Nat) (L : List Nat) (b : Nat) : Prop := I P 14 = nI L.length ∧ I P 15 = nI (msk L) ∧ I P 16 = nI b ∧ ∀ j w, L[j]? = some w → I (P + 1) j = nI w
def vst (f : Nat → Int32) : Nat → Nat → List Nat → Nat × List Nat
  | 0, i, L => (i, L)
  | d + 1, i, L => match vro (f i) with
    | none => (i, L)
    | some w => if w ∈ L ∨ 5 ≤ L.length then (i, L) else vst f d (i + 1) (L ++ [w])
theorem vst_n {f : Nat → Int32} {d i : Nat} {L : List Nat} (h : vro (f i) = none) : vst f (d + 1) i L = (i, L) := by
  simp only [vst, h]
theorem vst_s {f : Nat → Int32} {d i w : Nat} {L : List Nat} (h : vro (f i) = some w) (h2 : w ∈ L ∨ 5 ≤ L.length) : vst f (d + 1) i L = (i, L) := by
  simp only [vst, h, if_pos h2]
theorem vst_y {f : Nat → Int32} {d i w : Nat} {L : List Nat} (h : vro (f i) = some w) (h2 : ¬ (w ∈ L ∨ 5 ≤ L.length)) : vst f (d + 1) i L = vst f d (i + 1) (L ++ [w]) := by
  simp only [vst, h, if_neg h2]
theorem vst_5 {f : Nat → Int32} {d i : Nat} {L : List Nat} (h : 5 ≤ L.length) : vst f d i L = (i, L) := by
  cases d with
  | zero => rfl
  | succ d =>
    cases hv : vro (f i) with
    | none => exact vst_n hv
    | some w => exact vst_s hv (Or.inr h)
theorem vrv_n {x : Int32} (h : vro x = none) : vrv x = -9 := by unfold vrv; rw [h]
theorem vrv_s {x : Int32} {w : Nat} (h : vro x = some w) : vrv x = nI w := by unfold vrv; rw [h]
theorem l_cst {V : mj_V} {J : hq_J} {ks : List Nat} {q sl P t n : Nat} {f : Nat → Int32} {a2 : Option Value} (hP : vPl P) (ht : t < 4) (hn : n ≤ 40) : ∀ (d i : Nat) (L : List Nat) (I : hq_I) (a4 : Option Value), i + d = n → I (23 + 2 * t) 23 = nI n → I (24 + 2 * t) = f → vplan I P L 0 → (∀ w, w ∈ L → w < 5) → L.length ≤ 5 → ∃ I' : hq_I, mj_ev V 18 2 [some (.ref (V.1 + P)), some (.ref (V.1 + (23 + 2 * t))), a2, some (.int (nI i)), a4] [] (hp V I J ks q sl) = some (some (.int (nI (vst f d i L).1)), hp V I' J ks q sl) ∧ vplan I' P (vst f d i L).2 0 ∧ ∀ id, id ≠ P → id ≠ P + 1 → I' id = I id
  | 0, i, L, I, a4, hi, hs, hf, hv, hL, hL5 => by
    obtain rfl : i = n := by omega
    refine ⟨I, ?_, hv, fun _ _ _ => rfl⟩
    rw [r18_2]
    simp only [r18_0, r18_1, r18_3, r18_3n, r18_4, r18_7, r18_10, r18_11, r18_14, r18_15, r18_18, r18_18n, r18_19, r18_22, r18_23, r18_24, r18_27, r18_29, r18_31, r18_33, r18_36, r18_37, r18_39, r18_42, r18_45, r18_48, r18_49, r18_52, r18_53, r18_56, r18_58, r18_59, r18_60, r18_61, r18_64, r18_65, r18_66, r18_69, r18_70, r18_71, r18_74, r18_75, r18_77, r18_78, r18_79, r18_82, r18_85, r18_88, r18_89, Option.bind_some, Option.toList_some, Option.toList_none, List.cons_append, List.nil_append, mj_rfs, mj_rfn, if_true, if_false, not_true_eq_false, not_false_eq_true, true_or, or_true, mj_b_0, mj_b_1, mj_b_01, Decidable.not_not, and_self, and_true, true_and, and_false, false_and, or_false, false_or, or_self, c0_cls, c0_rows, c0_texts, c0_pages, c0_machines, c0_refusals, c0_findingTimes, c0_triedPlan, c0_triedHeld, c0_made, c0_pageCount, c0_day, c0_latestFinding, c0_latestAsked, c0_latestUpper, c0_latestLower, c_isRow, c_isText, c_isMachine, c_isFile, c_isSet, c_isWhy, c_isHarm, c_isWrites, c_isHead, c_max, c_min, c_found1, c_found2, c_found3, c_found4, c_found5, Int32.lt_iff_toInt_lt, Int32.le_iff_toInt_le, ti_m99, ti_m9, ti_m4, ti_m3, ti_m2, ti_m1, ti_0, ti_1, ti_2, ti_3, ti_4, ti_5, ti_6, ti_7, ti_8, ti_9, ti_10, ti_11, ti_16, ti_20, ti_30, ti_32, ti_35, ti_40, ti_63, ti_64, ti_72, ti_76, ti_78, ti_82, ti_84, ti_99, ti_100, ti_111, ti_119, ti_125, ti_160, ti_200, ti_240, ti_256, ti_400, ti_999, ti_1000, ti_1024, tx_size ht, hs, Int.le_refl, vst]
  | d + 1, i, L, I, a4, hi, hs, hf, hv, hL, hL5 => by
    obtain ⟨v1, v2, v3, v4⟩ := hv
    have hPd : P = 7 ∨ 32 ≤ P := by unfold vPl at hP; omega
    rw [r18_2]
    by_cases h5 : 5 ≤ L.length
    · rw [vst_5 h5]
      refine ⟨I, ?_, ⟨v1, v2, v3, v4⟩, fun _ _ _ => rfl⟩
      simp only [r18_0, r18_1, r18_3, r18_3n, r18_4, r18_7, r18_10, r18_11, r18_14, r18_15, r18_18, r18_18n, r18_19, r18_22, r18_23, r18_24, r18_27, r18_29, r18_31, r18_33, r18_36, r18_37, r18_39, r18_42, r18_45, r18_48, r18_49, r18_52, r18_53, r18_56, r18_58, r18_59, r18_60, r18_61, r18_64, r18_65, r18_66, r18_69, r18_70, r18_71, r18_74, r18_75, r18_77, r18_78, r18_79, r18_82, r18_85, r18_88, r18_89, Option.bind_some, Option.toList_some, Option.toList_none, List.cons_append, List.nil_append, mj_rfs, mj_rfn, if_true, if_false, not_true_eq_false, not_false_eq_true, true_or, or_true, mj_b_0, mj_b_1, mj_b_01, Decidable.not_not, and_self, and_true, true_and, and_false, false_and, or_false, false_or, or_self, c0_cls, c0_rows, c0_texts, c0_pages, c0_machines, c0_refusals, c0_findingTimes, c0_triedPlan, c0_triedHeld, c0_made, c0_pageCount, c0_day, c0_latestFinding, c0_latestAsked, c0_latestUpper, c0_latestLower, c_isRow, c_isText, c_isMachine, c_isFile, c_isSet, c_isWhy, c_isHarm, c_isWrites, c_isHead, c_max, c_min, c_found1, c_found2, c_found3, c_found4, c_found5, Int32.lt_iff_toInt_lt, Int32.le_iff_toInt_le, ti_m99, ti_m9, ti_m4, ti_m3, ti_m2, ti_m1, ti_0, ti_1, ti_2, ti_3, ti_4, ti_5, ti_6, ti_7, ti_8, ti_9, ti_10, ti_11, ti_16, ti_20, ti_30, ti_32, ti_35, ti_40, ti_63, ti_64, ti_72, ti_76, ti_78, ti_82, ti_84, ti_99, ti_100, ti_111, ti_119, ti_125, ti_160, ti_200, ti_240, ti_256, ti_400, ti_999, ti_1000, ti_1024, tx_size ht, hs, nI_t (show i < 2 ^ 31 by omega), nI_t (show n < 2 ^ 31 by omega), show ¬ ((n : Int) ≤ (i : Int)) by omega, pP_14 hP, v1, nI_t (show L.length < 2 ^ 31 by omega), show ((5 : Int) ≤ (L.length : Int)) by omega]
    · cases hr : vro (f i) with
      | none =>
        rw [vst_n hr]
        refine ⟨I, ?_, ⟨v1, v2, v3, v4⟩, fun _ _ _ => rfl⟩
        simp only [r18_0, r18_1, r18_3, r18_3n, r18_4, r18_7, r18_10, r18_11, r18_14, r18_15, r18_18, r18_18n, r18_19, r18_22, r18_23, r18_24, r18_27, r18_29, r18_31, r18_33, r18_36, r18_37, r18_39, r18_42, r18_45, r18_48, r18_49, r18_52, r18_53, r18_56, r18_58, r18_59, r18_60, r18_61, r18_64, r18_65, r18_66, r18_69, r18_70, r18_71, r18_74, r18_75, r18_77, r18_78, r18_79, r18_82, r18_85, r18_88, r18_89, Option.bind_some, Option.toList_some, Option.toList_none, List.cons_append, List.nil_append, mj_rfs, mj_rfn, if_true, if_false, not_true_eq_false, not_false_eq_true, true_or, or_true, mj_b_0, mj_b_1, mj_b_01, Decidable.not_not, and_self, and_true, true_and, and_false, false_and, or_false, false_or, or_self, c0_cls, c0_rows, c0_texts, c0_pages, c0_machines, c0_refusals, c0_findingTimes, c0_triedPlan, c0_triedHeld, c0_made, c0_pageCount, c0_day, c0_latestFinding, c0_latestAsked, c0_latestUpper, c0_latestLower, c_isRow, c_isText, c_isMachine, c_isFile, c_isSet, c_isWhy, c_isHarm, c_isWrites, c_isHead, c_max, c_min, c_found1, c_found2, c_found3, c_found4, c_found5, Int32.lt_iff_toInt_lt, Int32.le_iff_toInt_le, ti_m99, ti_m9, ti_m4, ti_m3, ti_m2, ti_m1, ti_0, ti_1, ti_2, ti_3, ti_4, ti_5, ti_6, ti_7, ti_8, ti_9, ti_10, ti_11, ti_16, ti_20, ti_30, ti_32, ti_35, ti_40, ti_63, ti_64, ti_72, ti_76, ti_78, ti_82, ti_84, ti_99, ti_100, ti_111, ti_119, ti_125, ti_160, ti_200, ti_240, ti_256, ti_400, ti_999, ti_1000, ti_1024, tx_size ht, hs, nI_t (show i < 2 ^ 31 by omega), nI_t (show n < 2 ^ 31 by omega), show ¬ ((n : Int) ≤ (i : Int)) by omega, pP_14 hP, v1, nI_t (show L.length < 2 ^ 31 by omega), show ¬ ((5 : Int) ≤ (L.length : Int)) by omega, tx_bytes ht, tb_l ht rfl (show i < 40 by omega), hf, c_role, vrv_n hr]
      | some w =>
        have hw := vro_lt hr
        have hm := msk_32 hL
        by_cases hin : w ∈ L
        · rw [vst_s hr (Or.inl hin)]
          refine ⟨I, ?_, ⟨v1, v2, v3, v4⟩, fun _ _ _ => rfl⟩
          simp only [r18_0, r18_1, r18_3, r18_3n, r18_4, r18_7, r18_10, r18_11, r18_14, r18_15, r18_18, r18_18n, r18_19, r18_22, r18_23, r18_24, r18_27, r18_29, r18_31, r18_33, r18_36, r18_37, r18_39, r18_42, r18_45, r18_48, r18_49, r18_52, r18_53, r18_56, r18_58, r18_59, r18_60, r18_61, r18_64, r18_65, r18_66, r18_69, r18_70, r18_71, r18_74, r18_75, r18_77, r18_78, r18_79, r18_82, r18_85, r18_88, r18_89, Option.bind_some, Option.toList_some, Option.toList_none, List.cons_append, List.nil_append, mj_rfs, mj_rfn, if_true, if_false, not_true_eq_false, not_false_eq_true, true_or, or_true, mj_b_0, mj_b_1, mj_b_01, Decidable.not_not, and_self, and_true, true_and, and_false, false_and, or_false, false_or, or_self, c0_cls, c0_rows, c0_texts, c0_pages, c0_machines, c0_refusals, c0_findingTimes, c0_triedPlan, c0_triedHeld, c0_made, c0_pageCount, c0_day, c0_latestFinding, c0_latestAsked, c0_latestUpper, c0_latestLower, c_isRow, c_isText, c_isMachine, c_isFile, c_isSet, c_isWhy, c_isHarm, c_isWrites, c_isHead, c_max, c_min, c_found1, c_found2, c_found3, c_found4, c_found5, Int32.lt_iff_toInt_lt, Int32.le_iff_toInt_le, ti_m99, ti_m9, ti_m4, ti_m3, ti_m2, ti_m1, ti_0, ti_1, ti_2, ti_3, ti_4, ti_5, ti_6, ti_7, ti_8, ti_9, ti_10, ti_11, ti_16, ti_20, ti_30, ti_32, ti_35, ti_40, ti_63, ti_64, ti_72, ti_76, ti_78, ti_82, ti_84, ti_99, ti_100, ti_111, ti_119, ti_125, ti_160, ti_200, ti_240, ti_256, ti_400, ti_999, ti_1000, ti_1024, tx_size ht, hs, nI_t (show i < 2 ^ 31 by omega), nI_t (show n < 2 ^ 31 by omega), show ¬ ((n : Int) ≤ (i : Int)) by omega, pP_14 hP, v1, nI_t (show L.length < 2 ^ 31 by omega), show ¬ ((5 : Int) ≤ (L.length : Int)) by omega, tx_bytes ht, tb_l ht rfl (show i < 40 by omega), hf, c_role, vrv_s hr, nI_m9 (show w < 2 ^ 31 by omega), pP_cls hP, c_asks hP v2 (show msk L < 1024 by omega) (show w < 10 by omega) rfl, (msk_bit L w).mpr hin, eq_self, bT, i10]
        · rw [vst_y hr (fun e => e.elim hin h5)]
          have hb : ¬ msk L / 2 ^ w % 2 = 1 := fun e => hin ((msk_bit L w).mp e)
          have hp2 := bw_pow w (by omega)
          have hv2 : vplan (va_up (va_up (va_up I (P + 1) (upd (I (P + 1)) L.length (nI w))) P (upd (I P) 14 (nI (L.length + 1)))) P (upd (upd (I P) 14 (nI (L.length + 1))) 15 (nI (msk L ||| 2 ^ w)))) P (L ++ [w]) 0 := by
            refine ⟨?_, ?_, ?_, fun j x hj => ?_⟩
            · rw [va_up_self, upd_ne (by omega), upd_us, List.length_append]
              rfl
            · rw [va_up_self, upd_us, msk_app]
            · rw [va_up_self, upd_ne (by omega), upd_ne (by omega)]
              exact v3
            · rw [va_up_ne _ _ (by omega), va_up_ne _ _ (by omega), va_up_self]
              by_cases hjl : j < L.length
              · rw [upd_ne (by omega)]
                rw [List.getElem?_append_left hjl] at hj
                exact v4 j x hj
              · have hlt := ks_lt hj
                rw [ks_len] at hlt
                obtain rfl : j = L.length := by omega
                rw [ks_new] at hj
                cases hj
                rw [upd_us]
          have hL2 : ∀ x, x ∈ L ++ [w] → x < 5 := by
            intro x hx
            rcases List.mem_append.mp hx with hx | hx
            · exact hL x hx
            · rw [List.mem_singleton.mp hx]
              exact hw
          obtain ⟨I', E, hv', hfr⟩ := l_cst (V := V) (J := J) (ks := ks) (q := q) (sl := sl) (f := f) (a2 := a2) hP ht hn d (i + 1) (L ++ [w]) (va_up (va_up (va_up I (P + 1) (upd (I (P + 1)) L.length (nI w))) P (upd (I P) 14 (nI (L.length + 1)))) P (upd (upd (I P) 14 (nI (L.length + 1))) 15 (nI (msk L ||| 2 ^ w)))) (some (.int (nI w))) (by omega) (by rw [va_up_ne _ _ (by omega), va_up_ne _ _ (by omega), va_up_ne _ _ (by omega)]; exact hs) (by rw [va_up_ne _ _ (by omega), va_up_ne _ _ (by omega), va_up_ne _ _ (by omega)]; exact hf) hv2 hL2 (by rw [List.length_append]; show L.length + 1 ≤ 5; omega)
          refine ⟨I', ?_, hv', fun id h1 h2 => ?_⟩
          · rw [← E]
            simp only [r18_0, r18_1, r18_3, r18_3n, r18_4, r18_7, r18_10, r18_11, r18_14, r18_15, r18_18, r18_18n, r18_19, r18_22, r18_23, r18_24, r18_27, r18_29, r18_31, r18_33, r18_36, r18_37, r18_39, r18_42, r18_45, r18_48, r18_49, r18_52, r18_53, r18_56, r18_58, r18_59, r18_60, r18_61, r18_64, r18_65, r18_66, r18_69, r18_70, r18_71, r18_74, r18_75, r18_77, r18_78, r18_79, r18_82, r18_85, r18_88, r18_89, Option.bind_some, Option.toList_some, Option.toList_none, List.cons_append, List.nil_append, mj_rfs, mj_rfn, if_true, if_false, not_true_eq_false, not_false_eq_true, true_or, or_true, mj_b_0, mj_b_1, mj_b_01, Decidable.not_not, and_self, and_true, true_and, and_false, false_and, or_false, false_or, or_self, c0_cls, c0_rows, c0_texts, c0_pages, c0_machines, c0_refusals, c0_findingTimes, c0_triedPlan, c0_triedHeld, c0_made, c0_pageCount, c0_day, c0_latestFinding, c0_latestAsked, c0_latestUpper, c0_latestLower, c_isRow, c_isText, c_isMachine, c_isFile, c_isSet, c_isWhy, c_isHarm, c_isWrites, c_isHead, c_max, c_min, c_found1, c_found2, c_found3, c_found4, c_found5, Int32.lt_iff_toInt_lt, Int32.le_iff_toInt_le, ti_m99, ti_m9, ti_m4, ti_m3, ti_m2, ti_m1, ti_0, ti_1, ti_2, ti_3, ti_4, ti_5, ti_6, ti_7, ti_8, ti_9, ti_10, ti_11, ti_16, ti_20, ti_30, ti_32, ti_35, ti_40, ti_63, ti_64, ti_72, ti_76, ti_78, ti_82, ti_84, ti_99, ti_100, ti_111, ti_119, ti_125, ti_160, ti_200, ti_240, ti_256, ti_400, ti_999, ti_1000, ti_1024, tx_size ht, hs, nI_t (show i < 2 ^ 31 by omega), nI_t (show n < 2 ^ 31 by omega), show ¬ ((n : Int) ≤ (i : Int)) by omega, pP_14 hP, pP_14s hP, pP_15 hP, pP_15s hP, va_up_self, va_up_ne _ _ (show P ≠ P + 1 by omega), upd_us, upd_ne (show 15 ≠ 14 by omega), v1, v2, nI_t (show L.length < 2 ^ 31 by omega), show ¬ ((5 : Int) ≤ (L.length : Int)) by omega, tx_bytes ht, tb_l ht rfl (show i < 40 by omega), hf, c_role, vrv_s hr, nI_m9 (show w < 2 ^ 31 by omega), pP_cls hP, c_asks hP v2 (show msk L < 1024 by omega) (show w < 10 by omega) rfl, hb, bF, pP_ord hP, pP_os hP rfl (show L.length < 5 by omega), bw_one w (by omega), bw_or (show msk L < 1024 by omega) hp2, nI_1]
          · rw [hfr id h1 h2, va_up_ne _ _ h1, va_up_ne _ _ h1, va_up_ne _ _ h2]
