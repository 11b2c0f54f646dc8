/-! the law: every script's every call is answered alike -/
theorem and63 (x : Int32) : ∃ c, c < 64 ∧ x &&& 63 = nI c := by
  refine ⟨(x &&& 63).toBitVec.toNat, ?_, ?_⟩
  · rw [Int32.toBitVec_and, BitVec.toNat_and]
    exact Nat.lt_of_le_of_lt Nat.and_le_right (by decide)
  · apply Int32.toBitVec_inj.mp
    apply BitVec.eq_of_toNat_eq
    rw [pk_tn (BitVec.isLt _)]
theorem off_le : ∀ ks : List Nat, hq_off ks ks.length ≤ 3 * ks.length
  | [] => Nat.le_refl _
  | k :: ks => by
    have ih := off_le ks
    rw [List.length_cons, hq_off_succ]
    have h : hq_pl k ≤ 3 := by
      unfold hq_pl
      split
      · omega
      · split <;> omega
    omega
theorem l_law {V : mj_V} {b L : Nat} {xs : Nat → Int32} (hV : vV V) (hs : V.2.2 b = some (L, xs)) (hb : b < V.1) (hL : L ≤ 3072) : ∀ (d i : Nat) (I : hq_I) (J : hq_J) (ks : List Nat) (sl : Nat), L ≤ i + 6 * d + 5 → i ≤ 3072 → Inv I J ks sl → ∃ (I' : hq_I) (J' : hq_J) (ks' : List Nat) (sl' : Nat), mj_ev V 218 18 [some (.ref b), some (.ref (V.1 + 0)), some (.ref (V.1 + 51)), some (.int (nI i))] [] (hp V I J ks ks.length sl) = some (some (.int 1), hp V I' J' ks' ks'.length sl') ∧ Inv I' J' ks' sl' := by
  intro d
  induction d with
  | zero =>
    intro i I J ks sl hi hi2 hI
    refine ⟨I, J, ks, sl, ?_, hI⟩
    have hlen : mj_len V (hp V I J ks ks.length sl) b = some L := by
      rw [mj_len, if_neg (by omega), hs]
      rfl
    have hlt : (nI L - 6).toInt < (nI i).toInt := by
      rw [i32_sub (by rw [nI_t (by omega), ti_6]; omega), nI_t (by omega), nI_t (by omega), ti_6]
      omega
    have hlt2 : nI L - 6 < nI i := Int32.lt_iff_toInt_lt.mpr hlt
    simp only [r218_18, r218_19, r218_20, r218_21, r218_23, r218_24, hlen, Option.bind_some, show Int32.ofNat L = nI L from rfl, hlt2, if_true, r218_1731, r218_1732, true_or, or_true]
  | succ d ih =>
    intro i I J ks sl hi hi2 hI
    have hlen : mj_len V (hp V I J ks ks.length sl) b = some L := by
      rw [mj_len, if_neg (by omega), hs]
      rfl
    by_cases hend : L < i + 6
    · refine ⟨I, J, ks, sl, ?_, hI⟩
      have hlt : (nI L - 6).toInt < (nI i).toInt := by
        rw [i32_sub (by rw [nI_t (by omega), ti_6]; omega), nI_t (by omega), nI_t (by omega), ti_6]
        omega
      have hlt2 : nI L - 6 < nI i := Int32.lt_iff_toInt_lt.mpr hlt
      simp only [r218_18, r218_19, r218_20, r218_21, r218_23, r218_24, hlen, Option.bind_some, show Int32.ofNat L = nI L from rfl, hlt2, if_true, r218_1731, r218_1732, true_or, or_true]
    · have hlt2 : ¬ nI L - 6 < nI i := by
        rw [Int32.lt_iff_toInt_lt, i32_sub (by rw [nI_t (by omega), ti_6]; omega), nI_t (by omega), nI_t (by omega), ti_6]
        omega
      obtain ⟨c, hc, ec⟩ := and63 (xs i)
      have T : mj_ev V 218 18 [some (.ref b), some (.ref (V.1 + 0)), some (.ref (V.1 + 51)), some (.int (nI i))] [] (hp V I J ks ks.length sl) = mj_ev V 218 33 [some (.ref b), some (.ref (V.1 + 0)), some (.ref (V.1 + 51)), some (.int (nI i))] [.int (nI c)] (hp V I J ks ks.length sl) := by
        simp only [r218_18, r218_19, r218_20, r218_21, r218_23, r218_24, hlen, Option.bind_some, show Int32.ofNat L = nI L from rfl, hlt2, if_false, r218_27, r218_28, r218_29, sc_l hs hb hL (show i < L by omega), r218_30, r218_32, ec]
      have step : ∃ (I2 : hq_I) (J2 : hq_J) (ks2 : List Nat) (sl2 : Nat), mj_ev V 218 33 [some (.ref b), some (.ref (V.1 + 0)), some (.ref (V.1 + 51)), some (.int (nI i))] [.int (nI c)] (hp V I J ks ks.length sl) = mj_ev V 218 1725 [some (.ref b), some (.ref (V.1 + 0)), some (.ref (V.1 + 51)), some (.int (nI i))] [] (hp V I2 J2 ks2 ks2.length sl2) ∧ Inv I2 J2 ks2 sl2 := by
        by_cases h43 : c < 44
        · rcases (show c = 0 ∨ c = 1 ∨ c = 2 ∨ c = 3 ∨ c = 4 ∨ c = 5 ∨ c = 6 ∨ c = 7 ∨ c = 8 ∨ c = 9 ∨ c = 10 ∨ c = 11 ∨ c = 12 ∨ c = 13 ∨ c = 14 ∨ c = 15 ∨ c = 16 ∨ c = 17 ∨ c = 18 ∨ c = 19 ∨ c = 20 ∨ c = 21 ∨ c = 22 ∨ c = 23 ∨ c = 24 ∨ c = 25 ∨ c = 26 ∨ c = 27 ∨ c = 28 ∨ c = 29 ∨ c = 30 ∨ c = 31 ∨ c = 32 ∨ c = 33 ∨ c = 34 ∨ c = 35 ∨ c = 36 ∨ c = 37 ∨ c = 38 ∨ c = 39 ∨ c = 40 ∨ c = 41 ∨ c = 42 ∨ c = 43 by omega) with rfl | rfl | rfl | rfl | rfl | rfl | rfl | rfl | rfl | rfl | rfl | rfl | rfl | rfl | rfl | rfl | rfl | rfl | rfl | rfl | rfl | rfl | rfl | rfl | rfl | rfl | rfl | rfl | rfl | rfl | rfl | rfl | rfl | rfl | rfl | rfl | rfl | rfl | rfl | rfl | rfl | rfl | rfl | rfl
          · exact w_0 hV hs hb hL (by omega) I J ks sl hI
          · exact w_1 hV hs hb hL (by omega) I J ks sl hI
          · exact w_2 hV hs hb hL (by omega) I J ks sl hI
          · exact w_3 hV hs hb hL (by omega) I J ks sl hI
          · exact w_4 hV hs hb hL (by omega) I J ks sl hI
          · exact w_5 hV hs hb hL (by omega) I J ks sl hI
          · exact w_6 hV hs hb hL (by omega) I J ks sl hI
          · exact w_7 hV hs hb hL (by omega) I J ks sl hI
          · exact w_8 hV hs hb hL (by omega) I J ks sl hI
          · exact w_9 hV hs hb hL (by omega) I J ks sl hI
          · exact w_10 hV hs hb hL (by omega) I J ks sl hI
          · exact w_11 hV hs hb hL (by omega) I J ks sl hI
          · exact w_12 hV hs hb hL (by omega) I J ks sl hI
          · exact w_13 hV hs hb hL (by omega) I J ks sl hI
          · exact w_14 hV hs hb hL (by omega) I J ks sl hI
          · exact w_15 hV hs hb hL (by omega) I J ks sl hI
          · exact w_16 hV hs hb hL (by omega) I J ks sl hI
          · exact w_17 hV hs hb hL (by omega) I J ks sl hI
          · exact w_18 hV hs hb hL (by omega) I J ks sl hI
          · exact w_19 hV hs hb hL (by omega) I J ks sl hI
          · exact w_20 hV hs hb hL (by omega) I J ks sl hI
          · exact w_21 hV hs hb hL (by omega) I J ks sl hI
          · exact w_22 hV hs hb hL (by omega) I J ks sl hI
          · exact w_23 hV hs hb hL (by omega) I J ks sl hI
          · exact w_24 hV hs hb hL (by omega) I J ks sl hI
          · exact w_25 hV hs hb hL (by omega) I J ks sl hI
          · exact w_26 hV hs hb hL (by omega) I J ks sl hI
          · exact w_27 hV hs hb hL (by omega) I J ks sl hI
          · exact w_28 hV hs hb hL (by omega) I J ks sl hI
          · exact w_29 hV hs hb hL (by omega) I J ks sl hI
          · exact w_30 hV hs hb hL (by omega) I J ks sl hI
          · exact w_31 hV hs hb hL (by omega) I J ks sl hI
          · exact w_32 hV hs hb hL (by omega) I J ks sl hI
          · exact w_33 hV hs hb hL (by omega) I J ks sl hI
          · exact w_34 hV hs hb hL (by omega) I J ks sl hI
          · exact w_35 hV hs hb hL (by omega) I J ks sl hI
          · exact w_36 hV hs hb hL (by omega) I J ks sl hI
          · exact w_37 hV hs hb hL (by omega) I J ks sl hI
          · exact w_38 hV hs hb hL (by omega) I J ks sl hI
          · exact w_39 hV hs hb hL (by omega) I J ks sl hI
          · exact w_40 hV hs hb hL (by omega) I J ks sl hI
          · exact w_41 hV hs hb hL (by omega) I J ks sl hI
          · exact w_42 hV hs hb hL (by omega) I J ks sl hI
          · exact w_43 hV hs hb hL (by omega) I J ks sl hI
        · refine ⟨I, J, ks, sl, ?_, hI⟩
          rw [r218_33d (Or.inr (by rw [nI_t (by omega)]; omega))]
      obtain ⟨I2, J2, ks2, sl2, E, hI2⟩ := step
      obtain ⟨I', J', ks', sl', E', hI'⟩ := ih (i + 6) I2 J2 ks2 sl2 (by omega) (by omega) hI2
      refine ⟨I', J', ks', sl', ?_, hI'⟩
      rw [T, E, ← E']
      simp only [r218_1725, r218_1728, show nI i + 6 = nI (i + 6) from nI_add i 6]
theorem law_ok : mj_law := by
  intro V b L xs hL hst
  obtain ⟨hs, h0, h1, hb, hb0, hb1⟩ := hst
  have hV : vV V := ⟨h0, h1, hb0, hb1⟩
  obtain ⟨f, Ec, hf⟩ := i_class V
  have Em := i_model V 819 f
  rw [i_heap hf] at Em
  obtain ⟨I', J', ks', sl', E, hI⟩ := l_law hV hs hb hL 513 0 I0 J0 [] 2509 (by omega) (by omega) (inv_0 (by omega))
  have T : mj_ev V 218 0 [some (.ref b), none, none, none] [] (0, []) = some (some (.int 1), hp V I' J' ks' ks'.length sl') := by
    rw [r218_0, r218_3, r218_4]
    have e1 : mj_ev V 39 0 [some (.ref (V.1 + ([] : List mj_E).length)), none] [] ((((0, []) : mj_H).1 + 15, ([] : List mj_E) ++ [.inr (10, mj_born)]) : mj_H) = some (none, hl 781 51 f) := Ec
    refine Eq.trans (congrArg (fun z => Option.bind z _) e1) ?_
    simp only [Option.bind_some, Option.toList_none, List.nil_append, r218_7, r218_8, r218_11, r218_12, hl_len, hl_new]
    refine Eq.trans (congrArg (fun z => Option.bind z _) Em) ?_
    simp only [Option.bind_some, Option.toList_none, List.nil_append, r218_15, r218_16, r218_17]
    exact E
  obtain ⟨n, hn⟩ := mj_ev_iff.mp T
  have hl40 := hI.2.2.2.2.2.2.1.1.2.2
  have hsl := hI.2.2.2.2.2.2.2.2
  refine ⟨n, _, hn, ?_, ?_⟩
  · show (hp_L V I' J' ks' ks'.length).length ≤ 600000
    rw [hp_len]
    have := off_le ks'
    unfold hq_pa
    omega
  · show sl' ≤ 7302250
    omega
