/-! what a text says: the model's steps, the whole; promise 22 -/
theorem nd_le : ∀ (n : Nat) (L : List Nat), L.Nodup → (∀ w, w ∈ L → w < n) → L.length ≤ n
  | 0, [], _, _ => Nat.le_refl _
  | 0, a :: L, _, h => absurd (h a (List.mem_cons_self ..)) (by omega)
  | n + 1, L, hd, h => by
    by_cases hn : n ∈ L
    · have h1 := nd_le n (L.erase n) (hd.erase n) (fun w hw => by
        have h2 := (hd.mem_erase_iff).mp hw
        have := h w h2.2
        have := h2.1
        omega)
      rw [List.length_erase_of_mem hn] at h1
      omega
    · have h1 := nd_le n L hd (fun w hw => by
        have := h w hw
        have : w ≠ n := fun e => hn (e ▸ hw)
        omega)
      omega
theorem nd_all {L : List Nat} {w : Nat} (hd : L.Nodup) (h : ∀ w, w ∈ L → w < 5) (h5 : 5 ≤ L.length) (hw : w < 5) : w ∈ L := by
  apply Classical.byContradiction
  intro hn
  have h1 := nd_le 5 (w :: L) (List.nodup_cons.mpr ⟨hn, hd⟩) (fun x hx => by
    rcases List.mem_cons.mp hx with rfl | hx
    · exact hw
    · exact h x hx)
  rw [List.length_cons] at h1
  omega
def vRz (f : Nat → Int32) (n : Nat) (s : Nat × List Nat) : Int32 := if s.2.length = 0 then nI s.1 else vend f n (vhb f (n - s.1) s.1 0).1
def vBz (f : Nat → Int32) (n : Nat) (s : Nat × List Nat) : Nat := if s.2.length = 0 then 0 else (vhb f (n - s.1) s.1 0).2
theorem l_f1 {V : mj_V} {J : hq_J} {ks : List Nat} {q sl t n : Nat} {f : Nat → Int32} (ht : t < 4) (hn : n ≤ 40) : ∀ (d i : Nat) (L : List Nat) (I : hq_I) (st : Int32) (a5 a6 a7 : Option Value), i + d = n → I 55 t = nI n → (∀ x, x < n → I 54 (40 * t + x) = f x) → vmp I L 0 → (∀ w, w ∈ L → w < 5) → L.Nodup → L.length ≤ 5 → (st = 0 ∧ L = [] ∧ (i < n → ¬ f i = 32)) ∨ (st = 1 ∧ L ≠ []) → ∃ I' : hq_I, mj_ev V 169 17 [some (.ref (V.1 + 51)), some (.int (nI t)), some (.int (nI (msk L))), some (.int st), some (.int (nI i)), a5, a6, a7] [] (hp V I J ks q sl) = some (some (.int (vRz f n (vst f d i L))), hp V I' J ks q sl) ∧ vmp I' (vst f d i L).2 (vBz f n (vst f d i L)) ∧ vmf I I' := by
  intro d
  induction d with
  | zero =>
    intro i L I st a5 a6 a7 hi hs hf hv hL hd h5 hst
    obtain rfl : i = n := by omega
    rcases hst with ⟨rfl, rfl, h32⟩ | ⟨rfl, hL0⟩
    · refine ⟨I, ?_, hv, vmf_refl I⟩
      show _ = some (some (Value.int (nI i)), _)
      have hz : I 51 73 = 0 := hv.1
      rw [r169_17]
      simp only [r169_0, r169_1, r169_2, r169_5, r169_6, r169_7, r169_10, r169_11, r169_12, r169_13, r169_14, r169_15, r169_19, r169_20, r169_23, r169_24, r169_25, r169_28, r169_29, r169_32, r169_34, r169_35, r169_36, r169_38, r169_39, r169_40, r169_42, r169_44, r169_47, r169_49, r169_51, r169_54, r169_56, r169_58, r169_60, r169_63, r169_64, r169_67, r169_68, r169_71, r169_72, r169_73, r169_76, r169_78, r169_81, r169_82, r169_83, r169_86, r169_87, r169_89, r169_90, r169_91, r169_92, r169_95, r169_96, r169_97, r169_98, r169_99, r169_101, r169_102, r169_103, r169_104, r169_105, r169_108, r169_109, r169_112, r169_114, r169_115, r169_116, r169_117, r169_120, r169_121, r169_122, r169_125, r169_128, r169_130, r169_133, r169_134, r169_135, r169_138, r169_139, r169_140, r169_143, r169_144, r169_147, r169_149, r169_150, r169_153, r169_154, r169_155, r169_156, r169_157, r169_160, r169_162, r169_163, r169_166, r169_169, r169_171, r169_172, r169_175, r169_178, r169_179, r169_182, r169_185, r169_186, r169_189, r169_190, r169_191, r169_194, r169_196, Option.bind_some, Option.toList_some, Option.toList_none, List.cons_append, List.nil_append, mj_rfs, mj_rfn, if_true, if_false, not_true_eq_false, not_false_eq_true, true_or, or_true, mj_b_0, mj_b_1, mj_b_01, Decidable.not_not, and_self, and_true, true_and, and_false, false_and, or_false, false_or, or_self, m51_cls, m51_places, m51_rowSize, m51_bytes, m51_textSize, m51_today, m51_pages, m51_kind, m51_number, m51_till, m51_signed, m51_keys, m51_many, m51_sums, m51_lends, m51_names, m51_alsoNames, m51_has, m51_isThere, m51_order, m51_steps, m51_looksAtNumbers, m51_looksAtDays, m51_hasTwo, m51_took, m51_runs, m51_refusals, m51_asked, m51_upper, m51_lower, m51_finding, m51_findings, m51_letters, m51_lettersMany, m51_looks, m51_copies, m51_kept, m51_four, m51_h, d_in, i64, d_tell, d_isMade, d_find1, d_find2, d_find3, d_find4, d_find5, tl_m99, tl_m1, tl_0, tl_1, tl_3, tl_4, tl_5, tl_6, tl_7, tl_9, tl_10, tl_17, tl_31, tl_40, tl_99, tl_999, tl_1023, Int32.lt_iff_toInt_lt, Int32.le_iff_toInt_le, ti_m99, ti_m9, ti_m4, ti_m3, ti_m2, ti_m1, ti_0, ti_1, ti_2, ti_3, ti_4, ti_5, ti_6, ti_7, ti_8, ti_9, ti_10, ti_11, ti_16, ti_20, ti_30, ti_32, ti_35, ti_40, ti_63, ti_64, ti_72, ti_76, ti_78, ti_82, ti_84, ti_99, ti_100, ti_111, ti_119, ti_125, ti_160, ti_200, ti_240, ti_256, ti_400, ti_999, ti_1000, ti_1024, a55_l rfl ht, hs, Int.le_refl, hz, eq_self]
    · have hz : ¬ L.length = 0 := fun e => hL0 (List.length_eq_zero_iff.mp e)
      have e := l_f2 (V := V) (J := J) (ks := ks) (q := q) (sl := sl) (f := f) ht hn hL hL0 h5 0 i 0 I 1 a5 a6 a7 (by omega) hs hf hv (by omega) (Or.inl rfl) (Or.inr (fun h => absurd h (by omega)))
      show ∃ I', _ = some (some (Value.int (vRz f i (i, L))), _) ∧ vmp I' L (vBz f i (i, L)) ∧ _
      unfold vRz vBz
      rw [if_neg hz, if_neg hz, Nat.sub_self]
      exact e
  | succ d ih =>
    intro i L I st a5 a6 a7 hi hs hf hv hL hd h5 hst
    have stop : L ≠ [] → st = 1 → vst f (d + 1) i L = (i, L) → (vro (f i) = none ∨ ∃ w, vro (f i) = some w ∧ w ∈ L) → ∃ I' : hq_I, mj_ev V 169 17 [some (.ref (V.1 + 51)), some (.int (nI t)), some (.int (nI (msk L))), some (.int st), some (.int (nI i)), a5, a6, a7] [] (hp V I J ks q sl) = some (some (.int (vRz f n (vst f (d + 1) i L))), hp V I' J ks q sl) ∧ vmp I' (vst f (d + 1) i L).2 (vBz f n (vst f (d + 1) i L)) ∧ vmf I I' := by
      intro hL0 h1 he hc
      have hz : ¬ L.length = 0 := fun e => hL0 (List.length_eq_zero_iff.mp e)
      have e := l_f2 (V := V) (J := J) (ks := ks) (q := q) (sl := sl) (f := f) ht hn hL hL0 h5 (d + 1) i 0 I st a5 a6 a7 (by omega) hs hf hv (by omega) (Or.inl h1) (Or.inr (fun _ => hc))
      rw [he]
      show ∃ I', _ = some (some (Value.int (vRz f n (i, L))), _) ∧ vmp I' L (vBz f n (i, L)) ∧ _
      unfold vRz vBz
      rw [if_neg hz, if_neg hz, show n - i = d + 1 by omega]
      exact e
    cases hr : vro (f i) with
    | none =>
      rcases hst with ⟨rfl, rfl, h32⟩ | ⟨h1, hL0⟩
      · rw [vst_n hr]
        have h32 := h32 (by omega)
        refine ⟨I, ?_, hv, vmf_refl I⟩
        show _ = some (some (Value.int (nI i)), _)
        rw [r169_17]
        by_cases hm : (nI (vha (f i))).toInt ≤ 0
        · simp only [r169_0, r169_1, r169_2, r169_5, r169_6, r169_7, r169_10, r169_11, r169_12, r169_13, r169_14, r169_15, r169_19, r169_20, r169_23, r169_24, r169_25, r169_28, r169_29, r169_32, r169_34, r169_35, r169_36, r169_38, r169_39, r169_40, r169_42, r169_44, r169_47, r169_49, r169_51, r169_54, r169_56, r169_58, r169_60, r169_63, r169_64, r169_67, r169_68, r169_71, r169_72, r169_73, r169_76, r169_78, r169_81, r169_82, r169_83, r169_86, r169_87, r169_89, r169_90, r169_91, r169_92, r169_95, r169_96, r169_97, r169_98, r169_99, r169_101, r169_102, r169_103, r169_104, r169_105, r169_108, r169_109, r169_112, r169_114, r169_115, r169_116, r169_117, r169_120, r169_121, r169_122, r169_125, r169_128, r169_130, r169_133, r169_134, r169_135, r169_138, r169_139, r169_140, r169_143, r169_144, r169_147, r169_149, r169_150, r169_153, r169_154, r169_155, r169_156, r169_157, r169_160, r169_162, r169_163, r169_166, r169_169, r169_171, r169_172, r169_175, r169_178, r169_179, r169_182, r169_185, r169_186, r169_189, r169_190, r169_191, r169_194, r169_196, Option.bind_some, Option.toList_some, Option.toList_none, List.cons_append, List.nil_append, mj_rfs, mj_rfn, if_true, if_false, not_true_eq_false, not_false_eq_true, true_or, or_true, mj_b_0, mj_b_1, mj_b_01, Decidable.not_not, and_self, and_true, true_and, and_false, false_and, or_false, false_or, or_self, m51_cls, m51_places, m51_rowSize, m51_bytes, m51_textSize, m51_today, m51_pages, m51_kind, m51_number, m51_till, m51_signed, m51_keys, m51_many, m51_sums, m51_lends, m51_names, m51_alsoNames, m51_has, m51_isThere, m51_order, m51_steps, m51_looksAtNumbers, m51_looksAtDays, m51_hasTwo, m51_took, m51_runs, m51_refusals, m51_asked, m51_upper, m51_lower, m51_finding, m51_findings, m51_letters, m51_lettersMany, m51_looks, m51_copies, m51_kept, m51_four, m51_h, d_in, i64, d_tell, d_isMade, d_find1, d_find2, d_find3, d_find4, d_find5, tl_m99, tl_m1, tl_0, tl_1, tl_3, tl_4, tl_5, tl_6, tl_7, tl_9, tl_10, tl_17, tl_31, tl_40, tl_99, tl_999, tl_1023, Int32.lt_iff_toInt_lt, Int32.le_iff_toInt_le, ti_m99, ti_m9, ti_m4, ti_m3, ti_m2, ti_m1, ti_0, ti_1, ti_2, ti_3, ti_4, ti_5, ti_6, ti_7, ti_8, ti_9, ti_10, ti_11, ti_16, ti_20, ti_30, ti_32, ti_35, ti_40, ti_63, ti_64, ti_72, ti_76, ti_78, ti_82, ti_84, ti_99, ti_100, ti_111, ti_119, ti_125, ti_160, ti_200, ti_240, ti_256, ti_400, ti_999, ti_1000, ti_1024, a55_l rfl ht, hs, nI_t (show i < 2 ^ 31 by omega), nI_t (show n < 2 ^ 31 by omega), show ¬ ((n : Int) ≤ (i : Int)) by omega, a54_l (ix40 t i) (show 40 * t + i < 160 by omega), hf i (by omega), d_cap, vrv_n hr, d_small, h32, show ((-9 : Int) < 0) by omega, hm]
        · simp only [r169_0, r169_1, r169_2, r169_5, r169_6, r169_7, r169_10, r169_11, r169_12, r169_13, r169_14, r169_15, r169_19, r169_20, r169_23, r169_24, r169_25, r169_28, r169_29, r169_32, r169_34, r169_35, r169_36, r169_38, r169_39, r169_40, r169_42, r169_44, r169_47, r169_49, r169_51, r169_54, r169_56, r169_58, r169_60, r169_63, r169_64, r169_67, r169_68, r169_71, r169_72, r169_73, r169_76, r169_78, r169_81, r169_82, r169_83, r169_86, r169_87, r169_89, r169_90, r169_91, r169_92, r169_95, r169_96, r169_97, r169_98, r169_99, r169_101, r169_102, r169_103, r169_104, r169_105, r169_108, r169_109, r169_112, r169_114, r169_115, r169_116, r169_117, r169_120, r169_121, r169_122, r169_125, r169_128, r169_130, r169_133, r169_134, r169_135, r169_138, r169_139, r169_140, r169_143, r169_144, r169_147, r169_149, r169_150, r169_153, r169_154, r169_155, r169_156, r169_157, r169_160, r169_162, r169_163, r169_166, r169_169, r169_171, r169_172, r169_175, r169_178, r169_179, r169_182, r169_185, r169_186, r169_189, r169_190, r169_191, r169_194, r169_196, Option.bind_some, Option.toList_some, Option.toList_none, List.cons_append, List.nil_append, mj_rfs, mj_rfn, if_true, if_false, not_true_eq_false, not_false_eq_true, true_or, or_true, mj_b_0, mj_b_1, mj_b_01, Decidable.not_not, and_self, and_true, true_and, and_false, false_and, or_false, false_or, or_self, m51_cls, m51_places, m51_rowSize, m51_bytes, m51_textSize, m51_today, m51_pages, m51_kind, m51_number, m51_till, m51_signed, m51_keys, m51_many, m51_sums, m51_lends, m51_names, m51_alsoNames, m51_has, m51_isThere, m51_order, m51_steps, m51_looksAtNumbers, m51_looksAtDays, m51_hasTwo, m51_took, m51_runs, m51_refusals, m51_asked, m51_upper, m51_lower, m51_finding, m51_findings, m51_letters, m51_lettersMany, m51_looks, m51_copies, m51_kept, m51_four, m51_h, d_in, i64, d_tell, d_isMade, d_find1, d_find2, d_find3, d_find4, d_find5, tl_m99, tl_m1, tl_0, tl_1, tl_3, tl_4, tl_5, tl_6, tl_7, tl_9, tl_10, tl_17, tl_31, tl_40, tl_99, tl_999, tl_1023, Int32.lt_iff_toInt_lt, Int32.le_iff_toInt_le, ti_m99, ti_m9, ti_m4, ti_m3, ti_m2, ti_m1, ti_0, ti_1, ti_2, ti_3, ti_4, ti_5, ti_6, ti_7, ti_8, ti_9, ti_10, ti_11, ti_16, ti_20, ti_30, ti_32, ti_35, ti_40, ti_63, ti_64, ti_72, ti_76, ti_78, ti_82, ti_84, ti_99, ti_100, ti_111, ti_119, ti_125, ti_160, ti_200, ti_240, ti_256, ti_400, ti_999, ti_1000, ti_1024, a55_l rfl ht, hs, nI_t (show i < 2 ^ 31 by omega), nI_t (show n < 2 ^ 31 by omega), show ¬ ((n : Int) ≤ (i : Int)) by omega, a54_l (ix40 t i) (show 40 * t + i < 160 by omega), hf i (by omega), d_cap, vrv_n hr, d_small, h32, show ((-9 : Int) < 0) by omega, hm, i01, show ((0 : Int32) = 2) = False by decide]
      · exact stop hL0 h1 (vst_n hr) (Or.inl hr)
    | some w =>
      have hw := vro_lt hr
      by_cases hin : w ∈ L
      · have hL0 : L ≠ [] := fun e => by rw [e] at hin; simp at hin
        exact stop hL0 (hst.elim (fun h => absurd h.2.1 hL0) (fun h => h.1)) (vst_s hr (Or.inl hin)) (Or.inr ⟨w, hr, hin⟩)
      · have h5' : ¬ 5 ≤ L.length := fun h => hin (nd_all hd hL h hw)
        have h32 : ¬ f i = 32 := fun e => by rw [vro_32 e] at hr; cases hr
        have hm := msk_32 hL
        have hbit : msk L / 2 ^ w % 2 = 0 := by
          have := fun e => hin ((msk_bit L w).mp e)
          have h2 : msk L / 2 ^ w % 2 = 0 ∨ msk L / 2 ^ w % 2 = 1 := by omega
          exact h2.resolve_right this
        have hp2 := bw_pow w (by omega)
        rw [vst_y hr (fun e => e.elim hin h5')]
        have hv2 : vmp (va_up (va_up I 77 (upd (I 77) L.length (nI w))) 51 (upd (I 51) 73 (nI (L.length + 1)))) (L ++ [w]) 0 := by
          refine ⟨?_, ?_, fun j x hj => ?_⟩
          · rw [va_up_self, upd_us, ks_len]
          · rw [va_up_self, upd_ne (by omega)]
            exact hv.2.1
          · rw [va_up_ne _ _ (by omega), va_up_self]
            by_cases hjl : j < L.length
            · rw [upd_ne (by omega)]
              rw [List.getElem?_append_left hjl] at hj
              exact hv.2.2 j x hj
            · have hlt := ks_lt hj
              rw [ks_len] at hlt
              obtain rfl : j = L.length := by omega
              rw [ks_new] at hj
              cases hj
              rw [upd_us]
        have hm2 : vmf I (va_up (va_up I 77 (upd (I 77) L.length (nI w))) 51 (upd (I 51) 73 (nI (L.length + 1)))) := ⟨fun id h1 h2 => by rw [va_up_ne _ _ h1, va_up_ne _ _ h2], fun g h1 h2 => by rw [va_up_self, upd_ne h1]⟩
        have hL2 : ∀ x, x ∈ L ++ [w] → x < 5 := by
          intro x hx
          rcases List.mem_append.mp hx with hx | hx
          · exact hL x hx
          · rw [List.mem_singleton.mp hx]
            exact hw
        have hd2 : (L ++ [w]).Nodup := by
          rw [List.nodup_append]
          refine ⟨hd, by simp, fun x hx y hy e => ?_⟩
          rw [List.mem_singleton.mp hy] at e
          exact hin (e ▸ hx)
        obtain ⟨I', E, hv', hfr⟩ := ih (i + 1) (L ++ [w]) (va_up (va_up I 77 (upd (I 77) L.length (nI w))) 51 (upd (I 51) 73 (nI (L.length + 1)))) 1 (some (.int (f i))) (some (.int (nI w))) (some (.int (nI (vha (f i))))) (by omega) (by rw [va_up_ne _ _ (by omega), va_up_ne _ _ (by omega)]; exact hs) (by rw [va_up_ne _ _ (by omega), va_up_ne _ _ (by omega)]; exact hf) hv2 hL2 hd2 (by rw [ks_len]; omega) (Or.inr ⟨rfl, by simp⟩)
        refine ⟨I', ?_, hv', vmf_trans hm2 hfr⟩
        rw [← E, r169_17, msk_app]
        have hst2 : ¬ (2 ≤ st.toInt) := by rcases hst with ⟨rfl, _⟩ | ⟨rfl, _⟩ <;> decide
        simp only [r169_0, r169_1, r169_2, r169_5, r169_6, r169_7, r169_10, r169_11, r169_12, r169_13, r169_14, r169_15, r169_19, r169_20, r169_23, r169_24, r169_25, r169_28, r169_29, r169_32, r169_34, r169_35, r169_36, r169_38, r169_39, r169_40, r169_42, r169_44, r169_47, r169_49, r169_51, r169_54, r169_56, r169_58, r169_60, r169_63, r169_64, r169_67, r169_68, r169_71, r169_72, r169_73, r169_76, r169_78, r169_81, r169_82, r169_83, r169_86, r169_87, r169_89, r169_90, r169_91, r169_92, r169_95, r169_96, r169_97, r169_98, r169_99, r169_101, r169_102, r169_103, r169_104, r169_105, r169_108, r169_109, r169_112, r169_114, r169_115, r169_116, r169_117, r169_120, r169_121, r169_122, r169_125, r169_128, r169_130, r169_133, r169_134, r169_135, r169_138, r169_139, r169_140, r169_143, r169_144, r169_147, r169_149, r169_150, r169_153, r169_154, r169_155, r169_156, r169_157, r169_160, r169_162, r169_163, r169_166, r169_169, r169_171, r169_172, r169_175, r169_178, r169_179, r169_182, r169_185, r169_186, r169_189, r169_190, r169_191, r169_194, r169_196, Option.bind_some, Option.toList_some, Option.toList_none, List.cons_append, List.nil_append, mj_rfs, mj_rfn, if_true, if_false, not_true_eq_false, not_false_eq_true, true_or, or_true, mj_b_0, mj_b_1, mj_b_01, Decidable.not_not, and_self, and_true, true_and, and_false, false_and, or_false, false_or, or_self, m51_cls, m51_places, m51_rowSize, m51_bytes, m51_textSize, m51_today, m51_pages, m51_kind, m51_number, m51_till, m51_signed, m51_keys, m51_many, m51_sums, m51_lends, m51_names, m51_alsoNames, m51_has, m51_isThere, m51_order, m51_steps, m51_looksAtNumbers, m51_looksAtDays, m51_hasTwo, m51_took, m51_runs, m51_refusals, m51_asked, m51_upper, m51_lower, m51_finding, m51_findings, m51_letters, m51_lettersMany, m51_looks, m51_copies, m51_kept, m51_four, m51_h, d_in, i64, d_tell, d_isMade, d_find1, d_find2, d_find3, d_find4, d_find5, tl_m99, tl_m1, tl_0, tl_1, tl_3, tl_4, tl_5, tl_6, tl_7, tl_9, tl_10, tl_17, tl_31, tl_40, tl_99, tl_999, tl_1023, Int32.lt_iff_toInt_lt, Int32.le_iff_toInt_le, ti_m99, ti_m9, ti_m4, ti_m3, ti_m2, ti_m1, ti_0, ti_1, ti_2, ti_3, ti_4, ti_5, ti_6, ti_7, ti_8, ti_9, ti_10, ti_11, ti_16, ti_20, ti_30, ti_32, ti_35, ti_40, ti_63, ti_64, ti_72, ti_76, ti_78, ti_82, ti_84, ti_99, ti_100, ti_111, ti_119, ti_125, ti_160, ti_200, ti_240, ti_256, ti_400, ti_999, ti_1000, ti_1024, a55_l rfl ht, hs, nI_t (show i < 2 ^ 31 by omega), nI_t (show n < 2 ^ 31 by omega), show ¬ ((n : Int) ≤ (i : Int)) by omega, a54_l (ix40 t i) (show 40 * t + i < 160 by omega), hf i (by omega), d_cap, vrv_s hr, d_small, h32, nI_t (show w < 2 ^ 31 by omega), show ¬ ((w : Int) < 0) by omega, hst2, bw_bit (msk L) (by omega) w (by omega), bitz hbit, eq_self, bw_one w (by omega), bw_or (show msk L < 1024 by omega) hp2, hv.1, a77_s rfl (show L.length < 5 by omega), va_up_ne _ _ (show 51 ≠ 77 by omega), m51_lettersMany_s, nI_1]
