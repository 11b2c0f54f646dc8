/-! what a text says: habits, the whole reading -/
def vhb (f : Nat → Int32) : Nat → Nat → Nat → Nat × Nat
  | 0, i, b => (i, b)
  | d + 1, i, b => if vha (f i) = 0 ∨ b &&& vha (f i) ≠ 0 then (i, b) else vhb f d (i + 1) (b ||| vha (f i))
theorem vhb_n {f : Nat → Int32} {d i b : Nat} (h : vha (f i) = 0 ∨ b &&& vha (f i) ≠ 0) : vhb f (d + 1) i b = (i, b) := if_pos h
theorem vhb_y {f : Nat → Int32} {d i b : Nat} (h : ¬ (vha (f i) = 0 ∨ b &&& vha (f i) ≠ 0)) : vhb f (d + 1) i b = vhb f d (i + 1) (b ||| vha (f i)) := if_neg h
theorem vhb_le {f : Nat → Int32} : ∀ d i b, i ≤ (vhb f d i b).1 ∧ (vhb f d i b).1 ≤ i + d
  | 0, i, b => ⟨Nat.le_refl _, Nat.le_refl _⟩
  | d + 1, i, b => by
    by_cases h : vha (f i) = 0 ∨ b &&& vha (f i) ≠ 0
    · rw [vhb_n h]
      exact ⟨Nat.le_refl _, by show i ≤ i + (d + 1); omega⟩
    · rw [vhb_y h]
      have := vhb_le (f := f) d (i + 1) (b ||| vha (f i))
      omega
theorem vst_le {f : Nat → Int32} : ∀ d i L, i ≤ (vst f d i L).1 ∧ (vst f d i L).1 ≤ i + d
  | 0, i, L => ⟨Nat.le_refl _, Nat.le_refl _⟩
  | d + 1, i, L => by
    cases hr : vro (f i) with
    | none =>
      rw [vst_n hr]
      exact ⟨Nat.le_refl _, by show i ≤ i + (d + 1); omega⟩
    | some w =>
      by_cases h2 : w ∈ L ∨ 5 ≤ L.length
      · rw [vst_s hr h2]
        exact ⟨Nat.le_refl _, by show i ≤ i + (d + 1); omega⟩
      · rw [vst_y hr h2]
        have := vst_le (f := f) d (i + 1) (L ++ [w])
        omega
theorem vst_L {f : Nat → Int32} : ∀ d i L, (∀ w, w ∈ L → w < 5) → L.length ≤ 5 → L.Nodup → (∀ w, w ∈ (vst f d i L).2 → w < 5) ∧ (vst f d i L).2.length ≤ 5 ∧ (vst f d i L).2.Nodup
  | 0, i, L, h1, h2, h3 => ⟨h1, h2, h3⟩
  | d + 1, i, L, h1, h2, h3 => by
    cases hr : vro (f i) with
    | none =>
      rw [vst_n hr]
      exact ⟨h1, h2, h3⟩
    | some w =>
      by_cases h4 : w ∈ L ∨ 5 ≤ L.length
      · rw [vst_s hr h4]
        exact ⟨h1, h2, h3⟩
      · rw [vst_y hr h4]
        refine vst_L d (i + 1) (L ++ [w]) (fun x hx => ?_) (by rw [ks_len]; omega) ?_
        · rcases List.mem_append.mp hx with hx | hx
          · exact h1 x hx
          · rw [List.mem_singleton.mp hx]
            exact vro_lt hr
        · rw [List.nodup_append]
          refine ⟨h3, by simp, fun x hx y hy e => ?_⟩
          rw [List.mem_singleton.mp hy] at e
          exact h4 (Or.inl (e ▸ hx))
theorem vha_lt (x : Int32) : vha x < 8 := by
  rcases vha_ex x with h | h | h | h <;> omega
theorem vhb_b {f : Nat → Int32} : ∀ d i b, b < 8 → (vhb f d i b).2 < 8
  | 0, i, b, h => h
  | d + 1, i, b, h => by
    by_cases h1 : vha (f i) = 0 ∨ b &&& vha (f i) ≠ 0
    · rw [vhb_n h1]
      exact h
    · rw [vhb_y h1]
      exact vhb_b d (i + 1) _ (Nat.or_lt_two_pow (n := 3) h (vha_lt _))
theorem nI_z : nI 0 = 0 := rfl
theorem nIz {n : Nat} (h : n < 2 ^ 31) : (nI n = 0) = (n = 0) := by rw [show (0 : Int32) = nI 0 from rfl, nI_eqn h (by omega)]
theorem l_chb {V : mj_V} {J : hq_J} {ks : List Nat} {q sl P t n : Nat} {f : Nat → Int32} {L : List Nat} {a2 : Option Value} (hP : vPl P) (ht : t < 4) (hn : n ≤ 40) : ∀ (d i b : Nat) (I : hq_I) (a4 : Option Value), i + d = n → I (23 + 2 * t) 23 = nI n → I (24 + 2 * t) = f → vplan I P L b → b < 8 → ∃ I' : hq_I, mj_ev V 19 2 [some (.ref (V.1 + P)), some (.ref (V.1 + (23 + 2 * t))), a2, some (.int (nI i)), a4] [] (hp V I J ks q sl) = some (some (.int (nI (vhb f d i b).1)), hp V I' J ks q sl) ∧ vplan I' P L (vhb f d i b).2 ∧ ∀ id, id ≠ P → id ≠ P + 1 → I' id = I id
  | 0, i, b, I, a4, hi, hs, hf, hv, hb => by
    obtain rfl : i = n := by omega
    refine ⟨I, ?_, hv, fun _ _ _ => rfl⟩
    rw [r19_2]
    simp only [r19_0, r19_1, r19_3, r19_3n, r19_4, r19_7, r19_10, r19_10n, r19_11, r19_14, r19_15, r19_16, r19_19, r19_21, r19_23, r19_26, r19_27, r19_29, r19_32, r19_35, r19_38, r19_39, r19_40, r19_43, r19_45, r19_46, r19_49, r19_52, r19_55, r19_56, Option.bind_some, Option.toList_some, Option.toList_none, List.cons_append, List.nil_append, mj_rfs, mj_rfn, if_true, if_false, not_true_eq_false, not_false_eq_true, true_or, or_true, mj_b_0, mj_b_1, mj_b_01, Decidable.not_not, and_self, and_true, true_and, and_false, false_and, or_false, false_or, or_self, c0_cls, c0_rows, c0_texts, c0_pages, c0_machines, c0_refusals, c0_findingTimes, c0_triedPlan, c0_triedHeld, c0_made, c0_pageCount, c0_day, c0_latestFinding, c0_latestAsked, c0_latestUpper, c0_latestLower, c_isRow, c_isText, c_isMachine, c_isFile, c_isSet, c_isWhy, c_isHarm, c_isWrites, c_isHead, c_max, c_min, c_found1, c_found2, c_found3, c_found4, c_found5, Int32.lt_iff_toInt_lt, Int32.le_iff_toInt_le, ti_m99, ti_m9, ti_m4, ti_m3, ti_m2, ti_m1, ti_0, ti_1, ti_2, ti_3, ti_4, ti_5, ti_6, ti_7, ti_8, ti_9, ti_10, ti_11, ti_16, ti_20, ti_30, ti_32, ti_35, ti_40, ti_63, ti_64, ti_72, ti_76, ti_78, ti_82, ti_84, ti_99, ti_100, ti_111, ti_119, ti_125, ti_160, ti_200, ti_240, ti_256, ti_400, ti_999, ti_1000, ti_1024, tx_size ht, hs, Int.le_refl, vhb]
  | d + 1, i, b, I, a4, hi, hs, hf, hv, hb => by
    obtain ⟨v1, v2, v3, v4⟩ := hv
    have hPd : P = 7 ∨ 32 ≤ P := by unfold vPl at hP; omega
    have hx := vha_lt (f i)
    have ea : nI b &&& nI (vha (f i)) = nI (b &&& vha (f i)) := bw_and (by omega) (by omega)
    have hal : b &&& vha (f i) < 8 := Nat.lt_of_le_of_lt Nat.and_le_left hb
    rw [r19_2]
    by_cases h0 : vha (f i) = 0
    · rw [vhb_n (Or.inl h0)]
      refine ⟨I, ?_, ⟨v1, v2, v3, v4⟩, fun _ _ _ => rfl⟩
      simp only [r19_0, r19_1, r19_3, r19_3n, r19_4, r19_7, r19_10, r19_10n, r19_11, r19_14, r19_15, r19_16, r19_19, r19_21, r19_23, r19_26, r19_27, r19_29, r19_32, r19_35, r19_38, r19_39, r19_40, r19_43, r19_45, r19_46, r19_49, r19_52, r19_55, r19_56, Option.bind_some, Option.toList_some, Option.toList_none, List.cons_append, List.nil_append, mj_rfs, mj_rfn, if_true, if_false, not_true_eq_false, not_false_eq_true, true_or, or_true, mj_b_0, mj_b_1, mj_b_01, Decidable.not_not, and_self, and_true, true_and, and_false, false_and, or_false, false_or, or_self, c0_cls, c0_rows, c0_texts, c0_pages, c0_machines, c0_refusals, c0_findingTimes, c0_triedPlan, c0_triedHeld, c0_made, c0_pageCount, c0_day, c0_latestFinding, c0_latestAsked, c0_latestUpper, c0_latestLower, c_isRow, c_isText, c_isMachine, c_isFile, c_isSet, c_isWhy, c_isHarm, c_isWrites, c_isHead, c_max, c_min, c_found1, c_found2, c_found3, c_found4, c_found5, Int32.lt_iff_toInt_lt, Int32.le_iff_toInt_le, ti_m99, ti_m9, ti_m4, ti_m3, ti_m2, ti_m1, ti_0, ti_1, ti_2, ti_3, ti_4, ti_5, ti_6, ti_7, ti_8, ti_9, ti_10, ti_11, ti_16, ti_20, ti_30, ti_32, ti_35, ti_40, ti_63, ti_64, ti_72, ti_76, ti_78, ti_82, ti_84, ti_99, ti_100, ti_111, ti_119, ti_125, ti_160, ti_200, ti_240, ti_256, ti_400, ti_999, ti_1000, ti_1024, tx_size ht, hs, nI_t (show i < 2 ^ 31 by omega), nI_t (show n < 2 ^ 31 by omega), show ¬ ((n : Int) ≤ (i : Int)) by omega, tx_bytes ht, tb_l ht rfl (show i < 40 by omega), hf, c_habit, nIz (show vha (f i) < 2 ^ 31 by omega), h0, nI_z, eq_self]
    · by_cases h1 : b &&& vha (f i) = 0
      · rw [vhb_y (fun e => e.elim h0 (fun e => e h1))]
        have e1 : nI b ||| nI (vha (f i)) = nI (b ||| vha (f i)) := bw_or (by omega) (by omega)
        have hv2 : vplan (va_up I P (upd (I P) 16 (nI (b ||| vha (f i))))) P L (b ||| vha (f i)) := by
          refine ⟨?_, ?_, ?_, fun j w hj => ?_⟩
          · rw [va_up_self, upd_ne (by omega)]
            exact v1
          · rw [va_up_self, upd_ne (by omega)]
            exact v2
          · rw [va_up_self, upd_us]
          · rw [va_up_ne _ _ (by omega)]
            exact v4 j w hj
        obtain ⟨I', E, hv', hfr⟩ := l_chb (V := V) (J := J) (ks := ks) (q := q) (sl := sl) (f := f) (L := L) (a2 := a2) hP ht hn d (i + 1) (b ||| vha (f i)) (va_up I P (upd (I P) 16 (nI (b ||| vha (f i))))) (some (.int (nI (vha (f i))))) (by omega) (by rw [va_up_ne _ _ (by omega)]; exact hs) (by rw [va_up_ne _ _ (by omega)]; exact hf) hv2 (Nat.or_lt_two_pow (n := 3) hb hx)
        refine ⟨I', ?_, hv', fun id h2 h3 => ?_⟩
        · rw [← E]
          simp only [r19_0, r19_1, r19_3, r19_3n, r19_4, r19_7, r19_10, r19_10n, r19_11, r19_14, r19_15, r19_16, r19_19, r19_21, r19_23, r19_26, r19_27, r19_29, r19_32, r19_35, r19_38, r19_39, r19_40, r19_43, r19_45, r19_46, r19_49, r19_52, r19_55, r19_56, Option.bind_some, Option.toList_some, Option.toList_none, List.cons_append, List.nil_append, mj_rfs, mj_rfn, if_true, if_false, not_true_eq_false, not_false_eq_true, true_or, or_true, mj_b_0, mj_b_1, mj_b_01, Decidable.not_not, and_self, and_true, true_and, and_false, false_and, or_false, false_or, or_self, c0_cls, c0_rows, c0_texts, c0_pages, c0_machines, c0_refusals, c0_findingTimes, c0_triedPlan, c0_triedHeld, c0_made, c0_pageCount, c0_day, c0_latestFinding, c0_latestAsked, c0_latestUpper, c0_latestLower, c_isRow, c_isText, c_isMachine, c_isFile, c_isSet, c_isWhy, c_isHarm, c_isWrites, c_isHead, c_max, c_min, c_found1, c_found2, c_found3, c_found4, c_found5, Int32.lt_iff_toInt_lt, Int32.le_iff_toInt_le, ti_m99, ti_m9, ti_m4, ti_m3, ti_m2, ti_m1, ti_0, ti_1, ti_2, ti_3, ti_4, ti_5, ti_6, ti_7, ti_8, ti_9, ti_10, ti_11, ti_16, ti_20, ti_30, ti_32, ti_35, ti_40, ti_63, ti_64, ti_72, ti_76, ti_78, ti_82, ti_84, ti_99, ti_100, ti_111, ti_119, ti_125, ti_160, ti_200, ti_240, ti_256, ti_400, ti_999, ti_1000, ti_1024, tx_size ht, hs, nI_t (show i < 2 ^ 31 by omega), nI_t (show n < 2 ^ 31 by omega), show ¬ ((n : Int) ≤ (i : Int)) by omega, tx_bytes ht, tb_l ht rfl (show i < 40 by omega), hf, c_habit, nIz (show vha (f i) < 2 ^ 31 by omega), h0, pP_cls hP, r16_0, r16_1, r16_4, r16_5, r16_6, r16_9, r16_10, r16_13, r16_14, pP_16 hP, pP_16s hP, v3, ea, nIz (show b &&& vha (f i) < 2 ^ 31 by omega), h1, e1, nI_1, nI_z, eq_self]
        · rw [hfr id h2 h3, va_up_ne _ _ h2]
      · rw [vhb_n (Or.inr h1)]
        refine ⟨I, ?_, ⟨v1, v2, v3, v4⟩, fun _ _ _ => rfl⟩
        simp only [r19_0, r19_1, r19_3, r19_3n, r19_4, r19_7, r19_10, r19_10n, r19_11, r19_14, r19_15, r19_16, r19_19, r19_21, r19_23, r19_26, r19_27, r19_29, r19_32, r19_35, r19_38, r19_39, r19_40, r19_43, r19_45, r19_46, r19_49, r19_52, r19_55, r19_56, Option.bind_some, Option.toList_some, Option.toList_none, List.cons_append, List.nil_append, mj_rfs, mj_rfn, if_true, if_false, not_true_eq_false, not_false_eq_true, true_or, or_true, mj_b_0, mj_b_1, mj_b_01, Decidable.not_not, and_self, and_true, true_and, and_false, false_and, or_false, false_or, or_self, c0_cls, c0_rows, c0_texts, c0_pages, c0_machines, c0_refusals, c0_findingTimes, c0_triedPlan, c0_triedHeld, c0_made, c0_pageCount, c0_day, c0_latestFinding, c0_latestAsked, c0_latestUpper, c0_latestLower, c_isRow, c_isText, c_isMachine, c_isFile, c_isSet, c_isWhy, c_isHarm, c_isWrites, c_isHead, c_max, c_min, c_found1, c_found2, c_found3, c_found4, c_found5, Int32.lt_iff_toInt_lt, Int32.le_iff_toInt_le, ti_m99, ti_m9, ti_m4, ti_m3, ti_m2, ti_m1, ti_0, ti_1, ti_2, ti_3, ti_4, ti_5, ti_6, ti_7, ti_8, ti_9, ti_10, ti_11, ti_16, ti_20, ti_30, ti_32, ti_35, ti_40, ti_63, ti_64, ti_72, ti_76, ti_78, ti_82, ti_84, ti_99, ti_100, ti_111, ti_119, ti_125, ti_160, ti_200, ti_240, ti_256, ti_400, ti_999, ti_1000, ti_1024, tx_size ht, hs, nI_t (show i < 2 ^ 31 by omega), nI_t (show n < 2 ^ 31 by omega), show ¬ ((n : Int) ≤ (i : Int)) by omega, tx_bytes ht, tb_l ht rfl (show i < 40 by omega), hf, c_habit, nIz (show vha (f i) < 2 ^ 31 by omega), h0, pP_cls hP, r16_0, r16_1, r16_4, r16_5, r16_6, r16_9, r16_10, r16_13, r16_14, pP_16 hP, v3, ea, nIz (show b &&& vha (f i) < 2 ^ 31 by omega), h1, i10]
/-- steps, habits, the place at fault -/
def vrd (f : Nat → Int32) (n : Nat) : List Nat × Nat × Int32 := if (vst f (n - vsk f n 0) (vsk f n 0) []).2.length = 0 then ([], 0, nI (vst f (n - vsk f n 0) (vsk f n 0) []).1) else
  ((vst f (n - vsk f n 0) (vsk f n 0) []).2, (vhb f (n - (vst f (n - vsk f n 0) (vsk f n 0) []).1) (vst f (n - vsk f n 0) (vsk f n 0) []).1 0).2,
   if n ≤ vsk f (n - (vhb f (n - (vst f (n - vsk f n 0) (vsk f n 0) []).1) (vst f (n - vsk f n 0) (vsk f n 0) []).1 0).1) (vhb f (n - (vst f (n - vsk f n 0) (vsk f n 0) []).1) (vst f (n - vsk f n 0) (vsk f n 0) []).1 0).1 then -9 else nI (vsk f (n - (vhb f (n - (vst f (n - vsk f n 0) (vsk f n 0) []).1) (vst f (n - vsk f n 0) (vsk f n 0) []).1 0).1) (vhb f (n - (vst f (n - vsk f n 0) (vsk f n 0) []).1) (vst f (n - vsk f n 0) (vsk f n 0) []).1 0).1))
theorem c_read {V : mj_V} {I : hq_I} {J : hq_J} {ks : List Nat} {q sl : Nat} {P t n : Nat} {f : Nat → Int32} (hP : vPl P) (ht : t < 4) (hn : n ≤ 40) (hs : I (23 + 2 * t) 23 = nI n) (hf : I (24 + 2 * t) = f) : ∃ I' : hq_I, mj_ev V 14 0 [some (.ref (V.1 + P)), some (.ref (V.1 + (23 + 2 * t))), none] [] (hp V I J ks q sl) = some (none, hp V I' J ks q sl) ∧ vplan I' P (vrd f n).1 (vrd f n).2.1 ∧ I' P 17 = (vrd f n).2.2 ∧ ∀ id, id ≠ P → id ≠ P + 1 → I' id = I id := by
  have hPd : P = 7 ∨ 32 ≤ P := by unfold vPl at hP; omega
  obtain ⟨I0, hI0⟩ : ∃ I0 : hq_I, I0 = va_up I P (upd (upd (upd (I P) 14 0) 15 0) 16 0) := ⟨_, rfl⟩
  have hs0 : I0 (23 + 2 * t) 23 = nI n := by rw [hI0, va_up_ne _ _ (by omega)]; exact hs
  have hf0 : I0 (24 + 2 * t) = f := by rw [hI0, va_up_ne _ _ (by omega)]; exact hf
  have hv0 : vplan I0 P [] 0 := by
    refine ⟨?_, ?_, ?_, fun j w hj => by simp at hj⟩
    · rw [hI0, va_up_self, upd_ne (by omega), upd_ne (by omega), upd_us]
      rfl
    · rw [hI0, va_up_self, upd_ne (by omega), upd_us]
      rfl
    · rw [hI0, va_up_self, upd_us]
      rfl
  obtain ⟨i0, h0⟩ : ∃ i0, i0 = vsk f n 0 := ⟨_, rfl⟩
  have l0 := vsk_le (f := f) n 0
  rw [← h0] at l0
  have S0 := c_skip (V := V) (I := I0) (J := J) (ks := ks) (q := q) (sl := sl) (i := 0) ht hn hs0 (by omega)
  rw [hf0, Nat.sub_zero, ← h0] at S0
  have S0 : mj_ev V 17 0 [some (.ref (V.1 + (23 + 2 * t))), some (.int 0), none] [] (hp V I0 J ks q sl) = _ := S0
  obtain ⟨s, h1⟩ : ∃ s, s = vst f (n - i0) i0 [] := ⟨_, rfl⟩
  have l1 := vst_le (f := f) (n - i0) i0 []
  have LL := vst_L (f := f) (n - i0) i0 [] (fun w hw => by simp at hw) (by simp) List.nodup_nil
  rw [← h1] at l1 LL
  obtain ⟨I1, E1, hv1, hfr1⟩ := l_cst (V := V) (J := J) (ks := ks) (q := q) (sl := sl) (a2 := some (.int (nI i0))) hP ht hn (n - i0) i0 [] I0 none (by omega) hs0 hf0 hv0 (fun w hw => by simp at hw) (by simp)
  rw [← h1] at E1 hv1
  have R1 : mj_ev V 18 0 [some (.ref (V.1 + P)), some (.ref (V.1 + (23 + 2 * t))), some (.int (nI i0)), none, none] [] (hp V I0 J ks q sl) = _ := (show _ = _ by simp only [r18_0, r18_1, r18_3, r18_3n, r18_4, r18_7, r18_10, r18_11, r18_14, r18_15, r18_18, r18_18n, r18_19, r18_22, r18_23, r18_24, r18_27, r18_29, r18_31, r18_33, r18_36, r18_37, r18_39, r18_42, r18_45, r18_48, r18_49, r18_52, r18_53, r18_56, r18_58, r18_59, r18_60, r18_61, r18_64, r18_65, r18_66, r18_69, r18_70, r18_71, r18_74, r18_75, r18_77, r18_78, r18_79, r18_82, r18_85, r18_88, r18_89, Option.bind_some, Option.toList_some, Option.toList_none, List.cons_append, List.nil_append, mj_rfs, mj_rfn, if_true, if_false, not_true_eq_false, not_false_eq_true, true_or, or_true, mj_b_0, mj_b_1, mj_b_01, Decidable.not_not, and_self, and_true, true_and, and_false, false_and, or_false, false_or, or_self, c0_cls, c0_rows, c0_texts, c0_pages, c0_machines, c0_refusals, c0_findingTimes, c0_triedPlan, c0_triedHeld, c0_made, c0_pageCount, c0_day, c0_latestFinding, c0_latestAsked, c0_latestUpper, c0_latestLower, c_isRow, c_isText, c_isMachine, c_isFile, c_isSet, c_isWhy, c_isHarm, c_isWrites, c_isHead, c_max, c_min, c_found1, c_found2, c_found3, c_found4, c_found5, Int32.lt_iff_toInt_lt, Int32.le_iff_toInt_le, ti_m99, ti_m9, ti_m4, ti_m3, ti_m2, ti_m1, ti_0, ti_1, ti_2, ti_3, ti_4, ti_5, ti_6, ti_7, ti_8, ti_9, ti_10, ti_11, ti_16, ti_20, ti_30, ti_32, ti_35, ti_40, ti_63, ti_64, ti_72, ti_76, ti_78, ti_82, ti_84, ti_99, ti_100, ti_111, ti_119, ti_125, ti_160, ti_200, ti_240, ti_256, ti_400, ti_999, ti_1000, ti_1024, Option.bind_some]).trans E1
  have hs1 : I1 (23 + 2 * t) 23 = nI n := by rw [hfr1 _ (by omega) (by omega)]; exact hs0
  have hf1 : I1 (24 + 2 * t) = f := by rw [hfr1 _ (by omega) (by omega)]; exact hf0
  unfold vrd
  rw [← h0, ← h1]
  by_cases hz : s.2.length = 0
  · rw [if_pos hz]
    have e1 : s.2 = [] := List.length_eq_zero_iff.mp hz
    rw [e1] at hv1
    refine ⟨va_up I1 P (upd (I1 P) 17 (nI s.1)), ?_, ?_, ?_, fun id h2 h3 => ?_⟩
    · simp only [r14_0, r14_1, r14_2, r14_5, r14_6, r14_7, r14_10, r14_11, r14_12, r14_15, r14_16, r14_16n, r14_17, r14_17n, r14_18, r14_19, r14_22, r14_25, r14_26, r14_27, r14_30, r14_33, r14_33n, r14_34, r14_35, r14_35n, r14_36, r14_37, r14_40, r14_43, r14_44, r14_45, r14_46, r14_49, r14_52, r14_53, r14_53n, r14_54, r14_57, r14_60, r14_62, r14_62n, r14_65, r14_66, r14_69, Option.bind_some, Option.toList_some, Option.toList_none, List.cons_append, List.nil_append, mj_rfs, mj_rfn, if_true, if_false, not_true_eq_false, not_false_eq_true, true_or, or_true, mj_b_0, mj_b_1, mj_b_01, Decidable.not_not, and_self, and_true, true_and, and_false, false_and, or_false, false_or, or_self, c0_cls, c0_rows, c0_texts, c0_pages, c0_machines, c0_refusals, c0_findingTimes, c0_triedPlan, c0_triedHeld, c0_made, c0_pageCount, c0_day, c0_latestFinding, c0_latestAsked, c0_latestUpper, c0_latestLower, c_isRow, c_isText, c_isMachine, c_isFile, c_isSet, c_isWhy, c_isHarm, c_isWrites, c_isHead, c_max, c_min, c_found1, c_found2, c_found3, c_found4, c_found5, Int32.lt_iff_toInt_lt, Int32.le_iff_toInt_le, ti_m99, ti_m9, ti_m4, ti_m3, ti_m2, ti_m1, ti_0, ti_1, ti_2, ti_3, ti_4, ti_5, ti_6, ti_7, ti_8, ti_9, ti_10, ti_11, ti_16, ti_20, ti_30, ti_32, ti_35, ti_40, ti_63, ti_64, ti_72, ti_76, ti_78, ti_82, ti_84, ti_99, ti_100, ti_111, ti_119, ti_125, ti_160, ti_200, ti_240, ti_256, ti_400, ti_999, ti_1000, ti_1024, pP_14s hP, pP_15s hP, pP_16s hP, va_up_up, va_up_self, ← hI0, S0, pP_cls hP, R1, pP_14 hP, hv1.1, List.length_nil, nI_z, Int.le_refl, pP_17s hP]
    · refine ⟨?_, ?_, ?_, fun j w hj => by simp at hj⟩
      · rw [va_up_self, upd_ne (by omega)]
        exact hv1.1
      · rw [va_up_self, upd_ne (by omega)]
        exact hv1.2.1
      · rw [va_up_self, upd_ne (by omega)]
        exact hv1.2.2.1
    · rw [va_up_self, upd_us]
    · rw [va_up_ne _ _ h2, hfr1 id h2 h3, hI0, va_up_ne _ _ h2]
  · rw [if_neg hz]
    obtain ⟨b, h2⟩ : ∃ b, b = vhb f (n - s.1) s.1 0 := ⟨_, rfl⟩
    have l2 := vhb_le (f := f) (n - s.1) s.1 0
    rw [← h2] at l2
    obtain ⟨I2, E2, hv2, hfr2⟩ := l_chb (V := V) (J := J) (ks := ks) (q := q) (sl := sl) (L := s.2) (a2 := some (.int (nI s.1))) hP ht hn (n - s.1) s.1 0 I1 none (by omega) hs1 hf1 hv1 (by omega)
    rw [← h2] at E2 hv2
    have R2 : mj_ev V 19 0 [some (.ref (V.1 + P)), some (.ref (V.1 + (23 + 2 * t))), some (.int (nI s.1)), none, none] [] (hp V I1 J ks q sl) = _ := (show _ = _ by simp only [r19_0, r19_1, r19_3, r19_3n, r19_4, r19_7, r19_10, r19_10n, r19_11, r19_14, r19_15, r19_16, r19_19, r19_21, r19_23, r19_26, r19_27, r19_29, r19_32, r19_35, r19_38, r19_39, r19_40, r19_43, r19_45, r19_46, r19_49, r19_52, r19_55, r19_56, Option.bind_some, Option.toList_some, Option.toList_none, List.cons_append, List.nil_append, mj_rfs, mj_rfn, if_true, if_false, not_true_eq_false, not_false_eq_true, true_or, or_true, mj_b_0, mj_b_1, mj_b_01, Decidable.not_not, and_self, and_true, true_and, and_false, false_and, or_false, false_or, or_self, c0_cls, c0_rows, c0_texts, c0_pages, c0_machines, c0_refusals, c0_findingTimes, c0_triedPlan, c0_triedHeld, c0_made, c0_pageCount, c0_day, c0_latestFinding, c0_latestAsked, c0_latestUpper, c0_latestLower, c_isRow, c_isText, c_isMachine, c_isFile, c_isSet, c_isWhy, c_isHarm, c_isWrites, c_isHead, c_max, c_min, c_found1, c_found2, c_found3, c_found4, c_found5, Int32.lt_iff_toInt_lt, Int32.le_iff_toInt_le, ti_m99, ti_m9, ti_m4, ti_m3, ti_m2, ti_m1, ti_0, ti_1, ti_2, ti_3, ti_4, ti_5, ti_6, ti_7, ti_8, ti_9, ti_10, ti_11, ti_16, ti_20, ti_30, ti_32, ti_35, ti_40, ti_63, ti_64, ti_72, ti_76, ti_78, ti_82, ti_84, ti_99, ti_100, ti_111, ti_119, ti_125, ti_160, ti_200, ti_240, ti_256, ti_400, ti_999, ti_1000, ti_1024, Option.bind_some]).trans E2
    have hs2 : I2 (23 + 2 * t) 23 = nI n := by rw [hfr2 _ (by omega) (by omega)]; exact hs1
    have hf2 : I2 (24 + 2 * t) = f := by rw [hfr2 _ (by omega) (by omega)]; exact hf1
    obtain ⟨i3, h3⟩ : ∃ i3, i3 = vsk f (n - b.1) b.1 := ⟨_, rfl⟩
    have l3 := vsk_le (f := f) (n - b.1) b.1
    rw [← h3] at l3
    have S3 := c_skip (V := V) (I := I2) (J := J) (ks := ks) (q := q) (sl := sl) (i := b.1) ht hn hs2 (by omega)
    rw [hf2, ← h3] at S3
    rw [← h2, ← h3]
    have z1 : ¬ ((s.2.length : Int) ≤ 0) := by omega
    refine ⟨va_up I2 P (upd (I2 P) 17 (if n ≤ i3 then -9 else nI i3)), ?_, ?_, ?_, fun id h4 h5 => ?_⟩
    · by_cases hf3 : n ≤ i3
      · rw [if_pos hf3]
        simp only [r14_0, r14_1, r14_2, r14_5, r14_6, r14_7, r14_10, r14_11, r14_12, r14_15, r14_16, r14_16n, r14_17, r14_17n, r14_18, r14_19, r14_22, r14_25, r14_26, r14_27, r14_30, r14_33, r14_33n, r14_34, r14_35, r14_35n, r14_36, r14_37, r14_40, r14_43, r14_44, r14_45, r14_46, r14_49, r14_52, r14_53, r14_53n, r14_54, r14_57, r14_60, r14_62, r14_62n, r14_65, r14_66, r14_69, Option.bind_some, Option.toList_some, Option.toList_none, List.cons_append, List.nil_append, mj_rfs, mj_rfn, if_true, if_false, not_true_eq_false, not_false_eq_true, true_or, or_true, mj_b_0, mj_b_1, mj_b_01, Decidable.not_not, and_self, and_true, true_and, and_false, false_and, or_false, false_or, or_self, c0_cls, c0_rows, c0_texts, c0_pages, c0_machines, c0_refusals, c0_findingTimes, c0_triedPlan, c0_triedHeld, c0_made, c0_pageCount, c0_day, c0_latestFinding, c0_latestAsked, c0_latestUpper, c0_latestLower, c_isRow, c_isText, c_isMachine, c_isFile, c_isSet, c_isWhy, c_isHarm, c_isWrites, c_isHead, c_max, c_min, c_found1, c_found2, c_found3, c_found4, c_found5, Int32.lt_iff_toInt_lt, Int32.le_iff_toInt_le, ti_m99, ti_m9, ti_m4, ti_m3, ti_m2, ti_m1, ti_0, ti_1, ti_2, ti_3, ti_4, ti_5, ti_6, ti_7, ti_8, ti_9, ti_10, ti_11, ti_16, ti_20, ti_30, ti_32, ti_35, ti_40, ti_63, ti_64, ti_72, ti_76, ti_78, ti_82, ti_84, ti_99, ti_100, ti_111, ti_119, ti_125, ti_160, ti_200, ti_240, ti_256, ti_400, ti_999, ti_1000, ti_1024, pP_14s hP, pP_15s hP, pP_16s hP, va_up_up, va_up_self, ← hI0, S0, pP_cls hP, R1, R2, S3, pP_14 hP, hv1.1, hv2.1, nI_t (show s.2.length < 2 ^ 31 by omega), z1, tx_size ht, hs2, nI_t (show n < 2 ^ 31 by omega), nI_t (show i3 < 2 ^ 31 by omega), show ¬ ((i3 : Int) < (n : Int)) by omega, pP_17s hP]
      · rw [if_neg hf3]
        simp only [r14_0, r14_1, r14_2, r14_5, r14_6, r14_7, r14_10, r14_11, r14_12, r14_15, r14_16, r14_16n, r14_17, r14_17n, r14_18, r14_19, r14_22, r14_25, r14_26, r14_27, r14_30, r14_33, r14_33n, r14_34, r14_35, r14_35n, r14_36, r14_37, r14_40, r14_43, r14_44, r14_45, r14_46, r14_49, r14_52, r14_53, r14_53n, r14_54, r14_57, r14_60, r14_62, r14_62n, r14_65, r14_66, r14_69, Option.bind_some, Option.toList_some, Option.toList_none, List.cons_append, List.nil_append, mj_rfs, mj_rfn, if_true, if_false, not_true_eq_false, not_false_eq_true, true_or, or_true, mj_b_0, mj_b_1, mj_b_01, Decidable.not_not, and_self, and_true, true_and, and_false, false_and, or_false, false_or, or_self, c0_cls, c0_rows, c0_texts, c0_pages, c0_machines, c0_refusals, c0_findingTimes, c0_triedPlan, c0_triedHeld, c0_made, c0_pageCount, c0_day, c0_latestFinding, c0_latestAsked, c0_latestUpper, c0_latestLower, c_isRow, c_isText, c_isMachine, c_isFile, c_isSet, c_isWhy, c_isHarm, c_isWrites, c_isHead, c_max, c_min, c_found1, c_found2, c_found3, c_found4, c_found5, Int32.lt_iff_toInt_lt, Int32.le_iff_toInt_le, ti_m99, ti_m9, ti_m4, ti_m3, ti_m2, ti_m1, ti_0, ti_1, ti_2, ti_3, ti_4, ti_5, ti_6, ti_7, ti_8, ti_9, ti_10, ti_11, ti_16, ti_20, ti_30, ti_32, ti_35, ti_40, ti_63, ti_64, ti_72, ti_76, ti_78, ti_82, ti_84, ti_99, ti_100, ti_111, ti_119, ti_125, ti_160, ti_200, ti_240, ti_256, ti_400, ti_999, ti_1000, ti_1024, pP_14s hP, pP_15s hP, pP_16s hP, va_up_up, va_up_self, ← hI0, S0, pP_cls hP, R1, R2, S3, pP_14 hP, hv1.1, hv2.1, nI_t (show s.2.length < 2 ^ 31 by omega), z1, tx_size ht, hs2, nI_t (show n < 2 ^ 31 by omega), nI_t (show i3 < 2 ^ 31 by omega), show ((i3 : Int) < (n : Int)) by omega, pP_17s hP]
    · refine ⟨?_, ?_, ?_, fun j w hj => ?_⟩
      · rw [va_up_self, upd_ne (by omega)]
        exact hv2.1
      · rw [va_up_self, upd_ne (by omega)]
        exact hv2.2.1
      · rw [va_up_self, upd_ne (by omega)]
        exact hv2.2.2.1
      · rw [va_up_ne _ _ (by omega)]
        exact hv2.2.2.2 j w hj
    · rw [va_up_self, upd_us]
    · rw [va_up_ne _ _ h4, hfr2 id h4 h5, hfr1 id h4 h5, hI0, va_up_ne _ _ h4]
