/-! promise 1: a new object. The heap while it is made: n cells, by a function -/
def hl (sl n : Nat) (f : Nat → mj_E) : mj_H := (sl, (List.range n).map f)
section HL
variable {V : mj_V} {sl n : Nat} {f : Nat → mj_E}
theorem hl_len : (hl sl n f).2.length = n := by
  show ((List.range n).map f).length = n
  rw [List.length_map, List.length_range]
theorem hl_cg {g : Nat → mj_E} (h : ∀ k, k < n → f k = g k) : hl sl n f = hl sl n g := by
  show (sl, (List.range n).map f) = (sl, (List.range n).map g)
  congr 1
  apply List.map_congr_left
  intro k hk
  exact h k (List.mem_range.mp hk)
theorem hl_new {s : Nat} {e : mj_E} : ((hl sl n f).1 + s, (hl sl n f).2 ++ [e]) = hl (sl + s) (n + 1) (va_up f n e) := by
  show (sl + s, (List.range n).map f ++ [e]) = (sl + s, (List.range (n + 1)).map (va_up f n e))
  rw [List.range_succ, List.map_append]
  congr 2
  · apply List.map_congr_left
    intro k hk
    have := List.mem_range.mp hk
    rw [va_up_ne _ _ (by omega)]
  · show [e] = [va_up f n e n]
    rw [va_up_self]
theorem va_comm {α : Type} (f : Nat → α) {a b : Nat} (h : a ≠ b) (x y : α) : va_up (va_up f a x) b y = va_up (va_up f b y) a x := by
  funext j
  simp only [va_up_a]
  by_cases h1 : j = b
  · rw [if_pos h1, if_pos h1, if_neg (by omega)]
  · rw [if_neg h1, if_neg h1]
theorem hl_newk {k s : Nat} {x e : mj_E} (hk : k < n) : ((hl sl n (va_up f k x)).1 + s, (hl sl n (va_up f k x)).2 ++ [e]) = hl (sl + s) (n + 1) (va_up (va_up f n e) k x) := by
  rw [hl_new, va_comm _ (by omega)]
theorem hl_get {k : Nat} (hk : k < n) : mj_get V (hl sl n f) (V.1 + k) = some (f k) := by
  rw [mj_get, if_pos (Nat.le_add_right _ _), Nat.add_sub_cancel_left]
  show ((List.range n).map f)[k]? = _
  rw [List.getElem?_map, List.getElem?_range hk]
  rfl
theorem hl_set {k : Nat} {e : mj_E} (hk : k < n) : mj_set V (hl sl n f) (V.1 + k) e = hl sl n (va_up f k e) := by
  show (sl, ((List.range n).map f).set (V.1 + k - V.1) e) = (sl, (List.range n).map (va_up f k e))
  rw [Nat.add_sub_cancel_left]
  congr 1
  apply List.ext_getElem?
  intro j
  by_cases hj : k = j
  · subst hj
    rw [List.getElem?_set_self (by simp [hk]), List.getElem?_map, List.getElem?_range hk]
    show some e = some (va_up f k e k)
    rw [va_up_self]
  · rw [List.getElem?_set_ne hj, List.getElem?_map, List.getElem?_map]
    by_cases hj2 : j < n
    · rw [List.getElem?_range hj2, Option.map_some, Option.map_some, va_up_ne _ _ (by omega)]
    · rw [List.getElem?_eq_none (by simp; omega)]
      rfl
theorem hl_sfl {k ci g : Nat} {F : Nat → Value} {v : Value} (hk : k < n) (hf : f k = .inr (ci, F)) (hg : mj_has ci g = true) : mj_sfl V (hl sl n f) (V.1 + k) g v = some (hl sl n (va_up f k (.inr (ci, va_up F g v)))) := by
  rw [mj_sfl, hl_get hk, hf]
  simp only [hg, if_true]
  rw [hl_set hk]
theorem hl_sfk {k ci g : Nat} {F : Nat → Value} {v : Value} (hk : k < n) (hg : mj_has ci g = true) : mj_sfl V (hl sl n (va_up f k (.inr (ci, F)))) (V.1 + k) g v = some (hl sl n (va_up f k (.inr (ci, va_up F g v)))) := by
  rw [hl_sfl hk (va_up_self ..) hg, va_up_up]
theorem hl_fld {k ci g : Nat} {F : Nat → Value} (hk : k < n) (hf : f k = .inr (ci, F)) (hg : mj_has ci g = true) : mj_fld V (hl sl n f) (V.1 + k) g = some (F g) := by
  rw [mj_fld, hl_get hk, hf]
  simp only [hg, if_true]
theorem hl_aas {k v t m j ci : Nat} {G : Nat → Option Nat} {F : Nat → Value} {x : Int32} (hk : k < n) (hv : v < n) (hf : f k = .inl (t, m, .inr (.inr (.inr (.inr G))))) (hF : f v = .inr (ci, F)) (ht : 3 ≤ t ∧ t ≤ 6 ∧ mj_isY ci (mj_ac.getD (t - 3) 99) = true) (hx : x = nI j) (hj : j < m) (hm : m < 2 ^ 31) : mj_aas V (hl sl n f) (V.1 + k) x (V.1 + v) = some (hl sl n (va_up f k (.inl (t, m, .inr (.inr (.inr (.inr (va_up G j (some (V.1 + v)))))))))) := by
  rw [mj_aas, hl_get hk, hl_get hv, hf, hF]
  simp only
  rw [if_pos ht, hx, if_neg (nI_in hj hm), nI_clamp (by omega), hl_set hk]
theorem hl_ias {k m j : Nat} {G : Nat → Int32} {x v : Int32} (hk : k < n) (hf : f k = .inl (0, m, .inl G)) (hx : x = nI j) (hj : j < m) (hm : m < 2 ^ 31) : mj_ias V (hl sl n f) (V.1 + k) x v = some (hl sl n (va_up f k (.inl (0, m, .inl (upd G j v))))) := by
  rw [mj_ias, hl_get hk, hf]
  simp only [if_true]
  rw [hx, if_neg (nI_in hj hm), nI_clamp (by omega), hl_set hk]
end HL
def zI : Nat → Int32 := fun _ => 0
/-! the small ones -/
section SM
variable {V : mj_V} {sl n : Nat} {f : Nat → mj_E}
theorem i_Row : mj_ev V 27 0 [some (.ref (V.1 + n))] [] (hl sl (n + 1) (va_up f n (.inr (7, mj_born)))) = some (none, hl (sl + 40) (n + 2) (va_up (va_up f (n + 1) (.inl (0, 40, .inl zI))) n (.inr (7, va_up (va_up mj_born 20 (.ref (V.1 + (n + 1)))) 21 (.int (-1)))))) := by
  simp only [r27_0, r27_1, r27_4, r27_5, r27_7, r27_9, r27_12, r27_13, r27_14, r27_17, Option.bind_some, Option.toList_some, Option.toList_none, List.cons_append, List.nil_append, mj_rfs, mj_rfn, if_true, if_false, not_true_eq_false, not_false_eq_true, true_or, or_true, mj_b_0, mj_b_1, mj_b_01, Decidable.not_not, and_self, and_true, true_and, and_false, false_and, or_false, false_or, or_self, c0_cls, c0_rows, c0_texts, c0_pages, c0_machines, c0_refusals, c0_findingTimes, c0_triedPlan, c0_triedHeld, c0_made, c0_pageCount, c0_day, c0_latestFinding, c0_latestAsked, c0_latestUpper, c0_latestLower, c_isRow, c_isText, c_isMachine, c_isFile, c_isSet, c_isWhy, c_isHarm, c_isWrites, c_isHead, c_max, c_min, c_found1, c_found2, c_found3, c_found4, c_found5, Int32.lt_iff_toInt_lt, Int32.le_iff_toInt_le, ti_m99, ti_m9, ti_m4, ti_m3, ti_m2, ti_m1, ti_0, ti_1, ti_2, ti_3, ti_4, ti_5, ti_6, ti_7, ti_8, ti_9, ti_10, ti_11, ti_16, ti_20, ti_30, ti_32, ti_35, ti_40, ti_63, ti_64, ti_72, ti_76, ti_78, ti_82, ti_84, ti_99, ti_100, ti_111, ti_119, ti_125, ti_160, ti_200, ti_240, ti_256, ti_400, ti_999, ti_1000, ti_1024, hl_newk (show n < n + 1 by omega), hl_len, hl_sfk (show n < n + 1 + 1 by omega) (show mj_has 7 20 = true by rfl), hl_sfk (show n < n + 1 + 1 by omega) (show mj_has 7 21 = true by rfl)]
  rfl
theorem i_Text : mj_ev V 33 0 [some (.ref (V.1 + n))] [] (hl sl (n + 1) (va_up f n (.inr (8, mj_born)))) = some (none, hl (sl + 40) (n + 2) (va_up (va_up f (n + 1) (.inl (1, 40, .inl zI))) n (.inr (8, va_up (va_up mj_born 22 (.ref (V.1 + (n + 1)))) 23 (.int (-1)))))) := by
  simp only [r33_0, r33_1, r33_4, r33_5, r33_7, r33_9, r33_12, r33_13, r33_14, r33_17, Option.bind_some, Option.toList_some, Option.toList_none, List.cons_append, List.nil_append, mj_rfs, mj_rfn, if_true, if_false, not_true_eq_false, not_false_eq_true, true_or, or_true, mj_b_0, mj_b_1, mj_b_01, Decidable.not_not, and_self, and_true, true_and, and_false, false_and, or_false, false_or, or_self, c0_cls, c0_rows, c0_texts, c0_pages, c0_machines, c0_refusals, c0_findingTimes, c0_triedPlan, c0_triedHeld, c0_made, c0_pageCount, c0_day, c0_latestFinding, c0_latestAsked, c0_latestUpper, c0_latestLower, c_isRow, c_isText, c_isMachine, c_isFile, c_isSet, c_isWhy, c_isHarm, c_isWrites, c_isHead, c_max, c_min, c_found1, c_found2, c_found3, c_found4, c_found5, Int32.lt_iff_toInt_lt, Int32.le_iff_toInt_le, ti_m99, ti_m9, ti_m4, ti_m3, ti_m2, ti_m1, ti_0, ti_1, ti_2, ti_3, ti_4, ti_5, ti_6, ti_7, ti_8, ti_9, ti_10, ti_11, ti_16, ti_20, ti_30, ti_32, ti_35, ti_40, ti_63, ti_64, ti_72, ti_76, ti_78, ti_82, ti_84, ti_99, ti_100, ti_111, ti_119, ti_125, ti_160, ti_200, ti_240, ti_256, ti_400, ti_999, ti_1000, ti_1024, hl_newk (show n < n + 1 by omega), hl_len, hl_sfk (show n < n + 1 + 1 by omega) (show mj_has 8 22 = true by rfl), hl_sfk (show n < n + 1 + 1 by omega) (show mj_has 8 23 = true by rfl)]
  rfl
theorem i_Plan {k : Nat} {F : Nat → Value} (hk : k < n) (hf : f k = .inr (5, F)) : mj_ev V 13 0 [some (.ref (V.1 + k))] [] (hl sl n f) = some (none, hl (sl + 5) (n + 1) (va_up (va_up f n (.inl (0, 5, .inl zI))) k (.inr (5, va_up F 13 (.ref (V.1 + n)))))) := by
  have e : va_up f n (Sum.inl (0, 5, Sum.inl zI)) k = (.inr (5, F) : mj_E) := by rw [va_up_ne _ _ (by omega)]; exact hf
  have S := hl_sfl (V := V) (sl := sl + 5) (n := n + 1) (f := va_up f n (Sum.inl (0, 5, Sum.inl zI))) (g := 13) (v := .ref (V.1 + n)) (show k < n + 1 by omega) e (show mj_has 5 13 = true by rfl)
  simp only [r13_0, r13_1, r13_4, r13_5, r13_6, r13_8, r13_11, Option.bind_some, Option.toList_some, Option.toList_none, List.cons_append, List.nil_append, mj_rfs, mj_rfn, if_true, if_false, not_true_eq_false, not_false_eq_true, true_or, or_true, mj_b_0, mj_b_1, mj_b_01, Decidable.not_not, and_self, and_true, true_and, and_false, false_and, or_false, false_or, or_self, c0_cls, c0_rows, c0_texts, c0_pages, c0_machines, c0_refusals, c0_findingTimes, c0_triedPlan, c0_triedHeld, c0_made, c0_pageCount, c0_day, c0_latestFinding, c0_latestAsked, c0_latestUpper, c0_latestLower, c_isRow, c_isText, c_isMachine, c_isFile, c_isSet, c_isWhy, c_isHarm, c_isWrites, c_isHead, c_max, c_min, c_found1, c_found2, c_found3, c_found4, c_found5, Int32.lt_iff_toInt_lt, Int32.le_iff_toInt_le, ti_m99, ti_m9, ti_m4, ti_m3, ti_m2, ti_m1, ti_0, ti_1, ti_2, ti_3, ti_4, ti_5, ti_6, ti_7, ti_8, ti_9, ti_10, ti_11, ti_16, ti_20, ti_30, ti_32, ti_35, ti_40, ti_63, ti_64, ti_72, ti_76, ti_78, ti_82, ti_84, ti_99, ti_100, ti_111, ti_119, ti_125, ti_160, ti_200, ti_240, ti_256, ti_400, ti_999, ti_1000, ti_1024, hl_new, hl_len, show (fun _ : Nat => (0 : Int32)) = zI from rfl, S]
theorem i_Mach : mj_ev V 9 0 [some (.ref (V.1 + n))] [] (hl sl (n + 1) (va_up f n (.inr (3, mj_born)))) = some (none, hl (sl + 25) (n + 5) (va_up (va_up (va_up (va_up (va_up f (n + 1) (.inr (5, va_up mj_born 13 (.ref (V.1 + (n + 2)))))) (n + 2) (.inl (0, 5, .inl zI))) (n + 3) (.inl (0, 5, .inl zI))) (n + 4) (.inl (0, 10, .inl zI))) n (.inr (3, va_up (va_up (va_up mj_born 9 (.ref (V.1 + (n + 1)))) 10 (.ref (V.1 + (n + 3)))) 11 (.ref (V.1 + (n + 4))))))) := by
  have P := i_Plan (V := V) (sl := sl + 5) (n := n + 1 + 1) (f := va_up (va_up f (n + 1) (.inr (5, mj_born))) n (.inr (3, mj_born))) (k := n + 1) (F := mj_born) (by omega) (by rw [va_up_ne _ _ (by omega), va_up_self])
  have e : va_up (va_up (va_up (va_up f (n + 1) (.inr (5, mj_born))) n (.inr (3, mj_born))) (n + 1 + 1) (.inl (0, 5, .inl zI))) (n + 1) (.inr (5, va_up mj_born 13 (.ref (V.1 + (n + 1 + 1))))) = (va_up (va_up (va_up f (n + 1) (.inr (5, va_up mj_born 13 (.ref (V.1 + (n + 1 + 1)))))) (n + 1 + 1) (.inl (0, 5, .inl zI))) n (.inr (3, mj_born)) : Nat → mj_E) := by
    funext j
    simp only [va_up_a]
    by_cases h1 : j = n + 1
    · subst h1
      simp only [show ¬ (n + 1 = n) by omega, show ¬ (n + 1 = n + 1 + 1) by omega, if_true, if_false]
    · by_cases h2 : j = n + 1 + 1
      · subst h2
        simp only [show ¬ (n + 1 + 1 = n) by omega, show ¬ (n + 1 + 1 = n + 1) by omega, if_true, if_false]
      · simp only [h1, h2, if_false]
  rw [e] at P
  simp only [r9_0, r9_1, r9_4, r9_5, r9_8, r9_9, r9_12, r9_15, r9_16, r9_17, r9_19, r9_22, r9_23, r9_25, r9_27, r9_30, Option.bind_some, Option.toList_some, Option.toList_none, List.cons_append, List.nil_append, mj_rfs, mj_rfn, if_true, if_false, not_true_eq_false, not_false_eq_true, true_or, or_true, mj_b_0, mj_b_1, mj_b_01, Decidable.not_not, and_self, and_true, true_and, and_false, false_and, or_false, false_or, or_self, c0_cls, c0_rows, c0_texts, c0_pages, c0_machines, c0_refusals, c0_findingTimes, c0_triedPlan, c0_triedHeld, c0_made, c0_pageCount, c0_day, c0_latestFinding, c0_latestAsked, c0_latestUpper, c0_latestLower, c_isRow, c_isText, c_isMachine, c_isFile, c_isSet, c_isWhy, c_isHarm, c_isWrites, c_isHead, c_max, c_min, c_found1, c_found2, c_found3, c_found4, c_found5, Int32.lt_iff_toInt_lt, Int32.le_iff_toInt_le, ti_m99, ti_m9, ti_m4, ti_m3, ti_m2, ti_m1, ti_0, ti_1, ti_2, ti_3, ti_4, ti_5, ti_6, ti_7, ti_8, ti_9, ti_10, ti_11, ti_16, ti_20, ti_30, ti_32, ti_35, ti_40, ti_63, ti_64, ti_72, ti_76, ti_78, ti_82, ti_84, ti_99, ti_100, ti_111, ti_119, ti_125, ti_160, ti_200, ti_240, ti_256, ti_400, ti_999, ti_1000, ti_1024, hl_newk (show n < n + 1 by omega), hl_newk (show n < n + 1 + 1 + 1 by omega), hl_newk (show n < n + 1 + 1 + 1 + 1 by omega), hl_len, P, show (fun _ : Nat => (0 : Int32)) = zI from rfl, hl_sfk (show n < n + 1 + 1 + 1 by omega) (show mj_has 3 9 = true by rfl), hl_sfk (show n < n + 1 + 1 + 1 + 1 by omega) (show mj_has 3 10 = true by rfl), hl_sfk (show n < n + 1 + 1 + 1 + 1 + 1 by omega) (show mj_has 3 11 = true by rfl)]
end SM
