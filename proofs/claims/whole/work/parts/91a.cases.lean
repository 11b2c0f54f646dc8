/-! the law's cases -/
theorem mj_typ {V : mj_V} : ∀ (n mi pc : Nat) (loc : mj_L) (st : List Value) (h : mj_H) (v : Option Value) (h' : mj_H) (M : mj_M), mj_ms[mi]? = some M → mj_run V n mi pc loc st h = some (v, h') → ∃ i st', mj_ret M.2.2.2.2.1 i st' = some v
  | 0, mi, pc, loc, st, h, v, h', M, hM, hr => by cases hr
  | n + 1, mi, pc, loc, st, h, v, h', M, hM, hr => by
    simp only [mj_run, Option.bind_eq_some_iff] at hr
    obtain ⟨M', hM', q, hq, a, ha, hr⟩ := hr
    cases hM.symm.trans hM'
    split at hr
    · exact mj_typ n _ _ _ _ _ _ _ M hM hr
    · simp only [Option.bind_eq_some_iff] at hr
      obtain ⟨K, hK, hr⟩ := hr
      split at hr
      · simp only [Option.bind_eq_some_iff] at hr
        obtain ⟨l0, hl0, r, hr0, hr⟩ := hr
        exact mj_typ n _ _ _ _ _ _ _ M hM hr
      · cases hr
    · rename_i w
      cases hr
      unfold mj_act at ha
      split at ha
      · rename_i a' ha1
        rw [Option.some.injEq] at ha
        subst ha
        obtain ⟨x, hx'⟩ := mj_ac1_inl ha1
        cases hx'
      · exact ⟨_, _, (mj_noret ha).2⟩
theorem mj_isI {i : Instr} {st : List Value} {v : Value} (h : mj_ret (some .int) i st = some (some v)) : ∃ x, v = .int x := by
  unfold mj_ret at h
  split at h <;> first | (cases h; exact ⟨_, rfl⟩) | (exfalso; simp_all; done) | cases h
theorem mj_isL {i : Instr} {st : List Value} {v : Value} (h : mj_ret (some .long) i st = some (some v)) : ∃ x, v = .long x := by
  unfold mj_ret at h
  split at h <;> first | (cases h; exact ⟨_, rfl⟩) | (exfalso; simp_all; done) | cases h
theorem ev_int {V : mj_V} {mi pc : Nat} {loc : mj_L} {st : List Value} {h h' : mj_H} {v : Value} {M : mj_M} (hM : mj_ms[mi]? = some M) (hr : M.2.2.2.2.1 = some .int) (he : mj_ev V mi pc loc st h = some (some v, h')) : ∃ x, v = .int x := by
  obtain ⟨n, hn⟩ := mj_ev_iff.mp he
  obtain ⟨i, st', e⟩ := mj_typ n mi pc loc st h _ _ M hM hn
  rw [hr] at e
  exact mj_isI e
theorem ev_long {V : mj_V} {mi pc : Nat} {loc : mj_L} {st : List Value} {h h' : mj_H} {v : Value} {M : mj_M} (hM : mj_ms[mi]? = some M) (hr : M.2.2.2.2.1 = some .long) (he : mj_ev V mi pc loc st h = some (some v, h')) : ∃ x, v = .long x := by
  obtain ⟨n, hn⟩ := mj_ev_iff.mp he
  obtain ⟨i, st', e⟩ := mj_typ n mi pc loc st h _ _ M hM hn
  rw [hr] at e
  exact mj_isL e
theorem lgc_self (x : Int64) : lg_cmp x x = 0 := by
  unfold lg_cmp
  rw [if_neg (fun h => by rw [gt_iff_lt, Int64.lt_iff_toInt_lt] at h; omega), if_pos rfl]
theorem sc_l {V : mj_V} {I : hq_I} {J : hq_J} {ks : List Nat} {q sl b L j : Nat} {xs : Nat → Int32} (hs : V.2.2 b = some (L, xs)) (hb : b < V.1) (hL : L ≤ 3072) (hj : j < L) : mj_ial V (hp V I J ks q sl) b (nI j) = some (xs j) := by
  rw [mj_ial, mj_ai, if_neg (by omega), if_pos rfl, hs, Option.bind_some, if_neg (nI_in hj (by omega)), nI_clamp (by omega)]
theorem ix_a (i k : Nat) : nI i + nI k = nI (i + k) := nI_add i k
/-- one call of the script, from the switch to the loop's end -/
def Wst (V : mj_V) (b i : Nat) (c : Int32) : Prop := ∀ (I : hq_I) (J : hq_J) (ks : List Nat) (sl : Nat), Inv I J ks sl → ∃ (I2 : hq_I) (J2 : hq_J) (ks2 : List Nat) (sl2 : Nat), mj_ev V 218 33 [some (.ref b), some (.ref (V.1 + 0)), some (.ref (V.1 + 51)), some (.int (nI i))] [.int c] (hp V I J ks ks.length sl) = mj_ev V 218 1725 [some (.ref b), some (.ref (V.1 + 0)), some (.ref (V.1 + 51)), some (.int (nI i))] [] (hp V I2 J2 ks2 ks2.length sl2) ∧ Inv I2 J2 ks2 sl2
theorem w_0 {V : mj_V} {b L i : Nat} {xs : Nat → Int32} (hV : vV V) (hs : V.2.2 b = some (L, xs)) (hb : b < V.1) (hL : L ≤ 3072) (hi : i + 6 ≤ L) : Wst V b i 0 := by
  intro I J ks sl hI
  obtain ⟨v, I1, J1, ks1, sl1, I2, J2, e1, e2, hI2⟩ := s_row V (xs (i + 1)) (xs (i + 2)) I J ks sl hI
  obtain ⟨x, rfl⟩ := ev_int m40 rfl e1
  refine ⟨I2, J2, ks1, sl1, ?_, hI2⟩
  simp only [r218_33c0, r218_224, r218_225, r218_226, r218_227, r218_228, r218_229, r218_230, r218_231, r218_232, r218_233, r218_234, r218_235, r218_238, r218_239, r218_240, r218_241, r218_242, r218_243, r218_244, r218_245, r218_246, r218_247, r218_248, r218_249, r218_252, r218_255, r218_256, Option.bind_some, Option.toList_some, Option.toList_none, List.cons_append, List.nil_append, mj_rfs, mj_rfn, if_true, if_false, not_true_eq_false, not_false_eq_true, true_or, or_true, mj_b_0, mj_b_1, mj_b_01, Decidable.not_not, and_self, and_true, true_and, and_false, false_and, or_false, false_or, or_self, c0_cls, m51_cls, show nI i + 1 = nI (i + 1) from nI_add i 1, sc_l hs hb hL (show i + 1 < L by omega), show nI i + 2 = nI (i + 2) from nI_add i 2, sc_l hs hb hL (show i + 2 < L by omega), e1, e2, eq_self, lgc_self]
theorem w_1 {V : mj_V} {b L i : Nat} {xs : Nat → Int32} (hV : vV V) (hs : V.2.2 b = some (L, xs)) (hb : b < V.1) (hL : L ≤ 3072) (hi : i + 6 ≤ L) : Wst V b i 1 := by
  intro I J ks sl hI
  obtain ⟨v, I1, J1, ks1, sl1, I2, J2, e1, e2, hI2⟩ := s_lay V (xs (i + 1)) (xs (i + 2)) (xs (i + 3)) I J ks sl hI
  obtain ⟨x, rfl⟩ := ev_int m41 rfl e1
  refine ⟨I2, J2, ks1, sl1, ?_, hI2⟩
  simp only [r218_33c1, r218_257, r218_258, r218_259, r218_260, r218_261, r218_262, r218_263, r218_264, r218_265, r218_266, r218_267, r218_268, r218_269, r218_270, r218_271, r218_272, r218_273, r218_276, r218_277, r218_278, r218_279, r218_280, r218_281, r218_282, r218_283, r218_284, r218_285, r218_286, r218_287, r218_288, r218_289, r218_290, r218_291, r218_292, r218_295, r218_298, r218_299, Option.bind_some, Option.toList_some, Option.toList_none, List.cons_append, List.nil_append, mj_rfs, mj_rfn, if_true, if_false, not_true_eq_false, not_false_eq_true, true_or, or_true, mj_b_0, mj_b_1, mj_b_01, Decidable.not_not, and_self, and_true, true_and, and_false, false_and, or_false, false_or, or_self, c0_cls, m51_cls, show nI i + 1 = nI (i + 1) from nI_add i 1, sc_l hs hb hL (show i + 1 < L by omega), show nI i + 2 = nI (i + 2) from nI_add i 2, sc_l hs hb hL (show i + 2 < L by omega), show nI i + 3 = nI (i + 3) from nI_add i 3, sc_l hs hb hL (show i + 3 < L by omega), e1, e2, eq_self, lgc_self]
theorem w_2 {V : mj_V} {b L i : Nat} {xs : Nat → Int32} (hV : vV V) (hs : V.2.2 b = some (L, xs)) (hb : b < V.1) (hL : L ≤ 3072) (hi : i + 6 ≤ L) : Wst V b i 2 := by
  intro I J ks sl hI
  obtain ⟨v, I1, J1, ks1, sl1, I2, J2, e1, e2, hI2⟩ := s_at V (xs (i + 1)) (xs (i + 2)) I J ks sl hI
  obtain ⟨x, rfl⟩ := ev_int m42 rfl e1
  refine ⟨I2, J2, ks1, sl1, ?_, hI2⟩
  simp only [r218_33c2, r218_300, r218_301, r218_302, r218_303, r218_304, r218_305, r218_306, r218_307, r218_308, r218_309, r218_310, r218_311, r218_314, r218_315, r218_316, r218_317, r218_318, r218_319, r218_320, r218_321, r218_322, r218_323, r218_324, r218_325, r218_328, r218_331, r218_332, Option.bind_some, Option.toList_some, Option.toList_none, List.cons_append, List.nil_append, mj_rfs, mj_rfn, if_true, if_false, not_true_eq_false, not_false_eq_true, true_or, or_true, mj_b_0, mj_b_1, mj_b_01, Decidable.not_not, and_self, and_true, true_and, and_false, false_and, or_false, false_or, or_self, c0_cls, m51_cls, show nI i + 1 = nI (i + 1) from nI_add i 1, sc_l hs hb hL (show i + 1 < L by omega), show nI i + 2 = nI (i + 2) from nI_add i 2, sc_l hs hb hL (show i + 2 < L by omega), e1, e2, eq_self, lgc_self]
theorem w_3 {V : mj_V} {b L i : Nat} {xs : Nat → Int32} (hV : vV V) (hs : V.2.2 b = some (L, xs)) (hb : b < V.1) (hL : L ≤ 3072) (hi : i + 6 ≤ L) : Wst V b i 3 := by
  intro I J ks sl hI
  obtain ⟨v, I1, J1, ks1, sl1, I2, J2, e1, e2, hI2⟩ := s_tear V (xs (i + 1)) I J ks sl hI
  obtain ⟨x, rfl⟩ := ev_int m43 rfl e1
  refine ⟨I2, J2, ks1, sl1, ?_, hI2⟩
  simp only [r218_33c3, r218_333, r218_334, r218_335, r218_336, r218_337, r218_338, r218_339, r218_342, r218_343, r218_344, r218_345, r218_346, r218_347, r218_348, r218_351, r218_354, r218_355, Option.bind_some, Option.toList_some, Option.toList_none, List.cons_append, List.nil_append, mj_rfs, mj_rfn, if_true, if_false, not_true_eq_false, not_false_eq_true, true_or, or_true, mj_b_0, mj_b_1, mj_b_01, Decidable.not_not, and_self, and_true, true_and, and_false, false_and, or_false, false_or, or_self, c0_cls, m51_cls, show nI i + 1 = nI (i + 1) from nI_add i 1, sc_l hs hb hL (show i + 1 < L by omega), e1, e2, eq_self, lgc_self]
theorem w_4 {V : mj_V} {b L i : Nat} {xs : Nat → Int32} (hV : vV V) (hs : V.2.2 b = some (L, xs)) (hb : b < V.1) (hL : L ≤ 3072) (hi : i + 6 ≤ L) : Wst V b i 4 := by
  intro I J ks sl hI
  obtain ⟨v, I1, J1, ks1, sl1, I2, J2, e1, e2, hI2⟩ := s_copy V (xs (i + 1)) (xs (i + 2)) (xs (i + 3)) (xs (i + 4)) (xs (i + 5)) I J ks sl hI
  obtain ⟨x, rfl⟩ := ev_int m44 rfl e1
  refine ⟨I2, J2, ks1, sl1, ?_, hI2⟩
  simp only [r218_33c4, r218_356, r218_357, r218_358, r218_359, r218_360, r218_361, r218_362, r218_363, r218_364, r218_365, r218_366, r218_367, r218_368, r218_369, r218_370, r218_371, r218_372, r218_373, r218_374, r218_375, r218_376, r218_377, r218_378, r218_379, r218_380, r218_381, r218_382, r218_385, r218_386, r218_387, r218_388, r218_389, r218_390, r218_391, r218_392, r218_393, r218_394, r218_395, r218_396, r218_397, r218_398, r218_399, r218_400, r218_401, r218_402, r218_403, r218_404, r218_405, r218_406, r218_407, r218_408, r218_409, r218_410, r218_411, r218_414, r218_417, r218_418, Option.bind_some, Option.toList_some, Option.toList_none, List.cons_append, List.nil_append, mj_rfs, mj_rfn, if_true, if_false, not_true_eq_false, not_false_eq_true, true_or, or_true, mj_b_0, mj_b_1, mj_b_01, Decidable.not_not, and_self, and_true, true_and, and_false, false_and, or_false, false_or, or_self, c0_cls, m51_cls, show nI i + 1 = nI (i + 1) from nI_add i 1, sc_l hs hb hL (show i + 1 < L by omega), show nI i + 2 = nI (i + 2) from nI_add i 2, sc_l hs hb hL (show i + 2 < L by omega), show nI i + 3 = nI (i + 3) from nI_add i 3, sc_l hs hb hL (show i + 3 < L by omega), show nI i + 4 = nI (i + 4) from nI_add i 4, sc_l hs hb hL (show i + 4 < L by omega), show nI i + 5 = nI (i + 5) from nI_add i 5, sc_l hs hb hL (show i + 5 < L by omega), e1, e2, eq_self, lgc_self]
theorem w_5 {V : mj_V} {b L i : Nat} {xs : Nat → Int32} (hV : vV V) (hs : V.2.2 b = some (L, xs)) (hb : b < V.1) (hL : L ≤ 3072) (hi : i + 6 ≤ L) : Wst V b i 5 := by
  intro I J ks sl hI
  obtain ⟨v, I1, J1, ks1, sl1, I2, J2, e1, e2, hI2⟩ := s_mean V (xs (i + 1)) I J ks sl hI
  obtain ⟨x, rfl⟩ := ev_int m45 rfl e1
  refine ⟨I2, J2, ks1, sl1, ?_, hI2⟩
  simp only [r218_33c5, r218_419, r218_420, r218_421, r218_422, r218_423, r218_424, r218_425, r218_428, r218_429, r218_430, r218_431, r218_432, r218_433, r218_434, r218_437, r218_440, r218_441, Option.bind_some, Option.toList_some, Option.toList_none, List.cons_append, List.nil_append, mj_rfs, mj_rfn, if_true, if_false, not_true_eq_false, not_false_eq_true, true_or, or_true, mj_b_0, mj_b_1, mj_b_01, Decidable.not_not, and_self, and_true, true_and, and_false, false_and, or_false, false_or, or_self, c0_cls, m51_cls, show nI i + 1 = nI (i + 1) from nI_add i 1, sc_l hs hb hL (show i + 1 < L by omega), e1, e2, eq_self, lgc_self]
theorem w_6 {V : mj_V} {b L i : Nat} {xs : Nat → Int32} (hV : vV V) (hs : V.2.2 b = some (L, xs)) (hb : b < V.1) (hL : L ≤ 3072) (hi : i + 6 ≤ L) : Wst V b i 6 := by
  intro I J ks sl hI
  obtain ⟨v, I1, J1, ks1, sl1, I2, J2, e1, e2, hI2⟩ := s_text V (xs (i + 1)) (xs (i + 2)) I J ks sl hI
  obtain ⟨x, rfl⟩ := ev_int m46 rfl e1
  refine ⟨I2, J2, ks1, sl1, ?_, hI2⟩
  simp only [r218_33c6, r218_442, r218_443, r218_444, r218_445, r218_446, r218_447, r218_448, r218_449, r218_450, r218_451, r218_452, r218_453, r218_456, r218_457, r218_458, r218_459, r218_460, r218_461, r218_462, r218_463, r218_464, r218_465, r218_466, r218_467, r218_470, r218_473, r218_474, Option.bind_some, Option.toList_some, Option.toList_none, List.cons_append, List.nil_append, mj_rfs, mj_rfn, if_true, if_false, not_true_eq_false, not_false_eq_true, true_or, or_true, mj_b_0, mj_b_1, mj_b_01, Decidable.not_not, and_self, and_true, true_and, and_false, false_and, or_false, false_or, or_self, c0_cls, m51_cls, show nI i + 1 = nI (i + 1) from nI_add i 1, sc_l hs hb hL (show i + 1 < L by omega), show nI i + 2 = nI (i + 2) from nI_add i 2, sc_l hs hb hL (show i + 2 < L by omega), e1, e2, eq_self, lgc_self]
theorem w_7 {V : mj_V} {b L i : Nat} {xs : Nat → Int32} (hV : vV V) (hs : V.2.2 b = some (L, xs)) (hb : b < V.1) (hL : L ≤ 3072) (hi : i + 6 ≤ L) : Wst V b i 7 := by
  intro I J ks sl hI
  obtain ⟨v, I1, J1, ks1, sl1, I2, J2, e1, e2, hI2⟩ := s_put V (xs (i + 1)) (xs (i + 2)) (xs (i + 3)) I J ks sl hI
  obtain ⟨x, rfl⟩ := ev_int m47 rfl e1
  refine ⟨I2, J2, ks1, sl1, ?_, hI2⟩
  simp only [r218_33c7, r218_475, r218_476, r218_477, r218_478, r218_479, r218_480, r218_481, r218_482, r218_483, r218_484, r218_485, r218_486, r218_487, r218_488, r218_489, r218_490, r218_491, r218_494, r218_495, r218_496, r218_497, r218_498, r218_499, r218_500, r218_501, r218_502, r218_503, r218_504, r218_505, r218_506, r218_507, r218_508, r218_509, r218_510, r218_513, r218_516, r218_517, Option.bind_some, Option.toList_some, Option.toList_none, List.cons_append, List.nil_append, mj_rfs, mj_rfn, if_true, if_false, not_true_eq_false, not_false_eq_true, true_or, or_true, mj_b_0, mj_b_1, mj_b_01, Decidable.not_not, and_self, and_true, true_and, and_false, false_and, or_false, false_or, or_self, c0_cls, m51_cls, show nI i + 1 = nI (i + 1) from nI_add i 1, sc_l hs hb hL (show i + 1 < L by omega), show nI i + 2 = nI (i + 2) from nI_add i 2, sc_l hs hb hL (show i + 2 < L by omega), show nI i + 3 = nI (i + 3) from nI_add i 3, sc_l hs hb hL (show i + 3 < L by omega), e1, e2, eq_self, lgc_self]
theorem w_8 {V : mj_V} {b L i : Nat} {xs : Nat → Int32} (hV : vV V) (hs : V.2.2 b = some (L, xs)) (hb : b < V.1) (hL : L ≤ 3072) (hi : i + 6 ≤ L) : Wst V b i 8 := by
  intro I J ks sl hI
  obtain ⟨v, I1, J1, ks1, sl1, I2, J2, e1, e2, hI2⟩ := s_later V (xs (i + 1)) I J ks sl hI
  obtain ⟨x, rfl⟩ := ev_int m48 rfl e1
  refine ⟨I2, J2, ks1, sl1, ?_, hI2⟩
  simp only [r218_33c8, r218_518, r218_519, r218_520, r218_521, r218_522, r218_523, r218_524, r218_527, r218_528, r218_529, r218_530, r218_531, r218_532, r218_533, r218_536, r218_539, r218_540, Option.bind_some, Option.toList_some, Option.toList_none, List.cons_append, List.nil_append, mj_rfs, mj_rfn, if_true, if_false, not_true_eq_false, not_false_eq_true, true_or, or_true, mj_b_0, mj_b_1, mj_b_01, Decidable.not_not, and_self, and_true, true_and, and_false, false_and, or_false, false_or, or_self, c0_cls, m51_cls, show nI i + 1 = nI (i + 1) from nI_add i 1, sc_l hs hb hL (show i + 1 < L by omega), e1, e2, eq_self, lgc_self]
theorem w_9 {V : mj_V} {b L i : Nat} {xs : Nat → Int32} (hV : vV V) (hs : V.2.2 b = some (L, xs)) (hb : b < V.1) (hL : L ≤ 3072) (hi : i + 6 ≤ L) : Wst V b i 9 := by
  intro I J ks sl hI
  obtain ⟨v, I1, J1, ks1, sl1, I2, J2, e1, e2, hI2⟩ := s_note V (xs (i + 1)) (xs (i + 2)) I J ks sl hI
  obtain ⟨x, rfl⟩ := ev_int m49 rfl e1
  refine ⟨I2, J2, ks1, sl1, ?_, hI2⟩
  simp only [r218_33c9, r218_541, r218_542, r218_543, r218_544, r218_545, r218_546, r218_547, r218_548, r218_549, r218_550, r218_551, r218_552, r218_555, r218_556, r218_557, r218_558, r218_559, r218_560, r218_561, r218_562, r218_563, r218_564, r218_565, r218_566, r218_569, r218_572, r218_573, Option.bind_some, Option.toList_some, Option.toList_none, List.cons_append, List.nil_append, mj_rfs, mj_rfn, if_true, if_false, not_true_eq_false, not_false_eq_true, true_or, or_true, mj_b_0, mj_b_1, mj_b_01, Decidable.not_not, and_self, and_true, true_and, and_false, false_and, or_false, false_or, or_self, c0_cls, m51_cls, show nI i + 1 = nI (i + 1) from nI_add i 1, sc_l hs hb hL (show i + 1 < L by omega), show nI i + 2 = nI (i + 2) from nI_add i 2, sc_l hs hb hL (show i + 2 < L by omega), e1, e2, eq_self, lgc_self]
theorem w_10 {V : mj_V} {b L i : Nat} {xs : Nat → Int32} (hV : vV V) (hs : V.2.2 b = some (L, xs)) (hb : b < V.1) (hL : L ≤ 3072) (hi : i + 6 ≤ L) : Wst V b i 10 := by
  intro I J ks sl hI
  obtain ⟨v, I1, J1, ks1, sl1, I2, J2, e1, e2, hI2⟩ := s_root V (xs (i + 1)) (xs (i + 2)) (xs (i + 3)) I J ks sl hI
  obtain ⟨x, rfl⟩ := ev_int m50 rfl e1
  refine ⟨I2, J2, ks1, sl1, ?_, hI2⟩
  simp only [r218_33c10, r218_574, r218_575, r218_576, r218_577, r218_578, r218_579, r218_580, r218_581, r218_582, r218_583, r218_584, r218_585, r218_586, r218_587, r218_588, r218_589, r218_590, r218_593, r218_594, r218_595, r218_596, r218_597, r218_598, r218_599, r218_600, r218_601, r218_602, r218_603, r218_604, r218_605, r218_606, r218_607, r218_608, r218_609, r218_612, r218_615, r218_616, Option.bind_some, Option.toList_some, Option.toList_none, List.cons_append, List.nil_append, mj_rfs, mj_rfn, if_true, if_false, not_true_eq_false, not_false_eq_true, true_or, or_true, mj_b_0, mj_b_1, mj_b_01, Decidable.not_not, and_self, and_true, true_and, and_false, false_and, or_false, false_or, or_self, c0_cls, m51_cls, show nI i + 1 = nI (i + 1) from nI_add i 1, sc_l hs hb hL (show i + 1 < L by omega), show nI i + 2 = nI (i + 2) from nI_add i 2, sc_l hs hb hL (show i + 2 < L by omega), show nI i + 3 = nI (i + 3) from nI_add i 3, sc_l hs hb hL (show i + 3 < L by omega), e1, e2, eq_self, lgc_self]
theorem w_11 {V : mj_V} {b L i : Nat} {xs : Nat → Int32} (hV : vV V) (hs : V.2.2 b = some (L, xs)) (hb : b < V.1) (hL : L ≤ 3072) (hi : i + 6 ≤ L) : Wst V b i 11 := by
  intro I J ks sl hI
  by_cases h5 : xs (i + 5) = 0
  · obtain ⟨v, I1, J1, ks1, sl1, I2, J2, e1, e2, hI2⟩ := s_list V (xs (i + 1)) (xs (i + 2)) (xs (i + 3)) (xs (i + 4)) 0 I J ks sl hI
    obtain ⟨x, rfl⟩ := ev_int m51 rfl e1
    refine ⟨I2, J2, ks1, sl1, ?_, hI2⟩
    simp only [r218_33c11, r218_617, r218_618, r218_619, r218_620, r218_621, r218_622, r218_623, r218_624, r218_625, r218_626, r218_627, r218_628, r218_629, r218_630, r218_631, r218_632, r218_633, r218_634, r218_635, r218_636, r218_637, r218_638, r218_639, r218_640, r218_641, r218_642, r218_643, r218_646, r218_647, r218_650, r218_651, r218_654, r218_655, r218_656, r218_657, r218_658, r218_659, r218_660, r218_661, r218_662, r218_663, r218_664, r218_665, r218_666, r218_667, r218_668, r218_669, r218_670, r218_671, r218_672, r218_673, r218_674, r218_675, r218_676, r218_677, r218_678, r218_679, r218_680, r218_683, r218_684, r218_687, r218_688, r218_691, r218_694, r218_695, Option.bind_some, Option.toList_some, Option.toList_none, List.cons_append, List.nil_append, mj_rfs, mj_rfn, if_true, if_false, not_true_eq_false, not_false_eq_true, true_or, or_true, mj_b_0, mj_b_1, mj_b_01, Decidable.not_not, and_self, and_true, true_and, and_false, false_and, or_false, false_or, or_self, c0_cls, m51_cls, show nI i + 1 = nI (i + 1) from nI_add i 1, sc_l hs hb hL (show i + 1 < L by omega), show nI i + 2 = nI (i + 2) from nI_add i 2, sc_l hs hb hL (show i + 2 < L by omega), show nI i + 3 = nI (i + 3) from nI_add i 3, sc_l hs hb hL (show i + 3 < L by omega), show nI i + 4 = nI (i + 4) from nI_add i 4, sc_l hs hb hL (show i + 4 < L by omega), show nI i + 5 = nI (i + 5) from nI_add i 5, sc_l hs hb hL (show i + 5 < L by omega), h5, e1, e2, eq_self, lgc_self]
  · obtain ⟨v, I1, J1, ks1, sl1, I2, J2, e1, e2, hI2⟩ := s_list V (xs (i + 1)) (xs (i + 2)) (xs (i + 3)) (xs (i + 4)) 1 I J ks sl hI
    obtain ⟨x, rfl⟩ := ev_int m51 rfl e1
    refine ⟨I2, J2, ks1, sl1, ?_, hI2⟩
    simp only [r218_33c11, r218_617, r218_618, r218_619, r218_620, r218_621, r218_622, r218_623, r218_624, r218_625, r218_626, r218_627, r218_628, r218_629, r218_630, r218_631, r218_632, r218_633, r218_634, r218_635, r218_636, r218_637, r218_638, r218_639, r218_640, r218_641, r218_642, r218_643, r218_646, r218_647, r218_650, r218_651, r218_654, r218_655, r218_656, r218_657, r218_658, r218_659, r218_660, r218_661, r218_662, r218_663, r218_664, r218_665, r218_666, r218_667, r218_668, r218_669, r218_670, r218_671, r218_672, r218_673, r218_674, r218_675, r218_676, r218_677, r218_678, r218_679, r218_680, r218_683, r218_684, r218_687, r218_688, r218_691, r218_694, r218_695, Option.bind_some, Option.toList_some, Option.toList_none, List.cons_append, List.nil_append, mj_rfs, mj_rfn, if_true, if_false, not_true_eq_false, not_false_eq_true, true_or, or_true, mj_b_0, mj_b_1, mj_b_01, Decidable.not_not, and_self, and_true, true_and, and_false, false_and, or_false, false_or, or_self, c0_cls, m51_cls, show nI i + 1 = nI (i + 1) from nI_add i 1, sc_l hs hb hL (show i + 1 < L by omega), show nI i + 2 = nI (i + 2) from nI_add i 2, sc_l hs hb hL (show i + 2 < L by omega), show nI i + 3 = nI (i + 3) from nI_add i 3, sc_l hs hb hL (show i + 3 < L by omega), show nI i + 4 = nI (i + 4) from nI_add i 4, sc_l hs hb hL (show i + 4 < L by omega), show nI i + 5 = nI (i + 5) from nI_add i 5, sc_l hs hb hL (show i + 5 < L by omega), h5, e1, e2, eq_self, lgc_self]
theorem w_12 {V : mj_V} {b L i : Nat} {xs : Nat → Int32} (hV : vV V) (hs : V.2.2 b = some (L, xs)) (hb : b < V.1) (hL : L ≤ 3072) (hi : i + 6 ≤ L) : Wst V b i 12 := by
  intro I J ks sl hI
  obtain ⟨v, I1, J1, ks1, sl1, I2, J2, e1, e2, hI2⟩ := s_together V (xs (i + 1)) (xs (i + 2)) (xs (i + 3)) (xs (i + 4)) I J ks sl hI
  obtain ⟨x, rfl⟩ := ev_int m52 rfl e1
  refine ⟨I2, J2, ks1, sl1, ?_, hI2⟩
  simp only [r218_33c12, r218_696, r218_697, r218_698, r218_699, r218_700, r218_701, r218_702, r218_703, r218_704, r218_705, r218_706, r218_707, r218_708, r218_709, r218_710, r218_711, r218_712, r218_713, r218_714, r218_715, r218_716, r218_717, r218_720, r218_721, r218_722, r218_723, r218_724, r218_725, r218_726, r218_727, r218_728, r218_729, r218_730, r218_731, r218_732, r218_733, r218_734, r218_735, r218_736, r218_737, r218_738, r218_739, r218_740, r218_741, r218_744, r218_747, r218_748, Option.bind_some, Option.toList_some, Option.toList_none, List.cons_append, List.nil_append, mj_rfs, mj_rfn, if_true, if_false, not_true_eq_false, not_false_eq_true, true_or, or_true, mj_b_0, mj_b_1, mj_b_01, Decidable.not_not, and_self, and_true, true_and, and_false, false_and, or_false, false_or, or_self, c0_cls, m51_cls, show nI i + 1 = nI (i + 1) from nI_add i 1, sc_l hs hb hL (show i + 1 < L by omega), show nI i + 2 = nI (i + 2) from nI_add i 2, sc_l hs hb hL (show i + 2 < L by omega), show nI i + 3 = nI (i + 3) from nI_add i 3, sc_l hs hb hL (show i + 3 < L by omega), show nI i + 4 = nI (i + 4) from nI_add i 4, sc_l hs hb hL (show i + 4 < L by omega), e1, e2, eq_self, lgc_self]
theorem w_13 {V : mj_V} {b L i : Nat} {xs : Nat → Int32} (hV : vV V) (hs : V.2.2 b = some (L, xs)) (hb : b < V.1) (hL : L ≤ 3072) (hi : i + 6 ≤ L) : Wst V b i 13 := by
  intro I J ks sl hI
  obtain ⟨v, I1, J1, ks1, sl1, I2, J2, e1, e2, hI2⟩ := s_hour V (xs (i + 1)) (xs (i + 2)) (xs (i + 3)) I J ks sl hI
  obtain ⟨x, rfl⟩ := ev_int m53 rfl e1
  refine ⟨I2, J2, ks1, sl1, ?_, hI2⟩
  simp only [r218_33c13, r218_749, r218_750, r218_751, r218_752, r218_753, r218_754, r218_755, r218_756, r218_757, r218_758, r218_759, r218_760, r218_761, r218_762, r218_763, r218_764, r218_765, r218_768, r218_769, r218_770, r218_771, r218_772, r218_773, r218_774, r218_775, r218_776, r218_777, r218_778, r218_779, r218_780, r218_781, r218_782, r218_783, r218_784, r218_787, r218_790, r218_791, Option.bind_some, Option.toList_some, Option.toList_none, List.cons_append, List.nil_append, mj_rfs, mj_rfn, if_true, if_false, not_true_eq_false, not_false_eq_true, true_or, or_true, mj_b_0, mj_b_1, mj_b_01, Decidable.not_not, and_self, and_true, true_and, and_false, false_and, or_false, false_or, or_self, c0_cls, m51_cls, show nI i + 1 = nI (i + 1) from nI_add i 1, sc_l hs hb hL (show i + 1 < L by omega), show nI i + 2 = nI (i + 2) from nI_add i 2, sc_l hs hb hL (show i + 2 < L by omega), show nI i + 3 = nI (i + 3) from nI_add i 3, sc_l hs hb hL (show i + 3 < L by omega), e1, e2, eq_self, lgc_self]
theorem w_14 {V : mj_V} {b L i : Nat} {xs : Nat → Int32} (hV : vV V) (hs : V.2.2 b = some (L, xs)) (hb : b < V.1) (hL : L ≤ 3072) (hi : i + 6 ≤ L) : Wst V b i 14 := by
  intro I J ks sl hI
  obtain ⟨v, I1, J1, ks1, sl1, I2, J2, e1, e2, hI2⟩ := s_sign V (xs (i + 1)) (xs (i + 2)) I J ks sl hI
  obtain ⟨x, rfl⟩ := ev_int m54 rfl e1
  refine ⟨I2, J2, ks1, sl1, ?_, hI2⟩
  simp only [r218_33c14, r218_792, r218_793, r218_794, r218_795, r218_796, r218_797, r218_798, r218_799, r218_800, r218_801, r218_802, r218_803, r218_806, r218_807, r218_808, r218_809, r218_810, r218_811, r218_812, r218_813, r218_814, r218_815, r218_816, r218_817, r218_820, r218_823, r218_824, Option.bind_some, Option.toList_some, Option.toList_none, List.cons_append, List.nil_append, mj_rfs, mj_rfn, if_true, if_false, not_true_eq_false, not_false_eq_true, true_or, or_true, mj_b_0, mj_b_1, mj_b_01, Decidable.not_not, and_self, and_true, true_and, and_false, false_and, or_false, false_or, or_self, c0_cls, m51_cls, show nI i + 1 = nI (i + 1) from nI_add i 1, sc_l hs hb hL (show i + 1 < L by omega), show nI i + 2 = nI (i + 2) from nI_add i 2, sc_l hs hb hL (show i + 2 < L by omega), e1, e2, eq_self, lgc_self]
