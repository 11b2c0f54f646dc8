/-! pages that are being made: the heap with some cells more -/
def hx (V : mj_V) (I : hq_I) (J : hq_J) (ks : List Nat) (q sl : Nat) (E : List mj_E) : mj_H := (sl, hp_L V I J ks q ++ E)
section HX
variable {V : mj_V} {I I' : hq_I} {J : hq_J} {ks : List Nat} {q sl : Nat} {E : List mj_E}
theorem hx_n0 {s : Nat} {e : mj_E} : ((hp V I J ks q sl).1 + s, (hp V I J ks q sl).2 ++ [e]) = hx V I J ks q (sl + s) [e] := rfl
theorem hx_n {s : Nat} {e : mj_E} : ((hx V I J ks q sl E).1 + s, (hx V I J ks q sl E).2 ++ [e]) = hx V I J ks q (sl + s) (E ++ [e]) := by
  unfold hx
  simp only [List.append_assoc]
theorem hx_l0 : (hp V I J ks q sl).2.length = hq_pa ks ks.length := hp_len V I J ks q
theorem hx_l1 {e : mj_E} : (hx V I J ks q sl [e]).2.length = hq_pa ks ks.length + 1 := by
  show (hp_L V I J ks q ++ [e]).length = _
  rw [List.length_append, hp_len]
  rfl
theorem hx_l2 {e f : mj_E} : (hx V I J ks q sl [e, f]).2.length = hq_pa ks ks.length + 2 := by
  show (hp_L V I J ks q ++ [e, f]).length = _
  rw [List.length_append, hp_len]
  rfl
theorem hx_low {k : Nat} (hk : k < 81) : mj_get V (hx V I J ks q sl E) (V.1 + k) = some (hq_fx V I J ks q k) := by
  rw [mj_get, if_pos (Nat.le_add_right _ _), Nat.add_sub_cancel_left]
  show (hp_L V I J ks q ++ E)[k]? = _
  rw [List.getElem?_append_left (by rw [hp_len]; unfold hq_pa; omega)]
  exact hp_at hk
theorem hx_lowf {k g : Nat} (hk : k < 81) : mj_fld V (hx V I J ks q sl E) (V.1 + k) g = mj_fld V (hp V I J ks q sl) (V.1 + k) g := by
  rw [mj_fld, mj_fld, hx_low hk, hp_get hk]
theorem hx_lowi {k : Nat} {x : Int32} (hk : k < 81) : mj_ial V (hx V I J ks q sl E) (V.1 + k) x = mj_ial V (hp V I J ks q sl) (V.1 + k) x := by
  rw [mj_ial, mj_ial, mj_ai, mj_ai, if_pos (Nat.le_add_right _ _), if_pos (Nat.le_add_right _ _), Nat.add_sub_cancel_left]
  show Option.bind (match (hp_L V I J ks q ++ E)[k]? with | some (.inl (t', n, .inl f)) => if t' = 0 then some (n, f) else none | _ => none) _ = Option.bind (match (hp_L V I J ks q)[k]? with | some (.inl (t', n, .inl f)) => if t' = 0 then some (n, f) else none | _ => none) _
  rw [List.getElem?_append_left (by rw [hp_len]; unfold hq_pa; omega)]
theorem hx_get {i : Nat} {e : mj_E} (h : E[i]? = some e) : mj_get V (hx V I J ks q sl E) (V.1 + (hq_pa ks ks.length + i)) = some e := by
  rw [mj_get, if_pos (Nat.le_add_right _ _), Nat.add_sub_cancel_left]
  show (hp_L V I J ks q ++ E)[hq_pa ks ks.length + i]? = _
  rw [List.getElem?_append_right (by rw [hp_len]; omega), hp_len, Nat.add_sub_cancel_left, h]
theorem hx_set {i : Nat} {e : mj_E} : mj_set V (hx V I J ks q sl E) (V.1 + (hq_pa ks ks.length + i)) e = hx V I J ks q sl (E.set i e) := by
  show (sl, (hp_L V I J ks q ++ E).set (V.1 + (hq_pa ks ks.length + i) - V.1) e) = _
  rw [Nat.add_sub_cancel_left, List.set_append_right _ _ (by rw [hp_len]; omega), hp_len, Nat.add_sub_cancel_left]
  rfl
theorem hx_sfl {ci g : Nat} {f : Nat → Value} {v : Value} (h : mj_has ci g = true) : mj_sfl V (hx V I J ks q sl (.inr (ci, f) :: E)) (V.1 + hq_pa ks ks.length) g v = some (hx V I J ks q sl (.inr (ci, va_up f g v) :: E)) := by
  have e := hx_get (V := V) (I := I) (J := J) (ks := ks) (q := q) (sl := sl) (E := .inr (ci, f) :: E) (i := 0) rfl
  have e2 := hx_set (V := V) (I := I) (J := J) (ks := ks) (q := q) (sl := sl) (E := .inr (ci, f) :: E) (i := 0) (e := .inr (ci, va_up f g v))
  rw [Nat.add_zero] at e e2
  rw [mj_sfl, e]
  simp only [h, if_true]
  rw [e2]
  rfl
theorem hx_fld {ci g : Nat} {f : Nat → Value} (h : mj_has ci g = true) : mj_fld V (hx V I J ks q sl (.inr (ci, f) :: E)) (V.1 + hq_pa ks ks.length) g = some (f g) := by
  have e := hx_get (V := V) (I := I) (J := J) (ks := ks) (q := q) (sl := sl) (E := .inr (ci, f) :: E) (i := 0) rfl
  rw [Nat.add_zero] at e
  rw [mj_fld, e]
  simp only [h, if_true]
theorem hx_cls {ci : Nat} {f : Nat → Value} : mj_cls V (hx V I J ks q sl (.inr (ci, f) :: E)) (V.1 + hq_pa ks ks.length) = some ci := by
  have e := hx_get (V := V) (I := I) (J := J) (ks := ks) (q := q) (sl := sl) (E := .inr (ci, f) :: E) (i := 0) rfl
  rw [Nat.add_zero] at e
  rw [mj_cls, e]
theorem hx_ias1 {o : mj_E} {n j : Nat} {f : Nat → Int32} {x v : Int32} (hx0 : x = nI j) (hj : j < n) (hn : n < 2 ^ 31) : mj_ias V (hx V I J ks q sl (o :: .inl (0, n, .inl f) :: E)) (V.1 + (hq_pa ks ks.length + 1)) x v = some (hx V I J ks q sl (o :: .inl (0, n, .inl (upd f j v)) :: E)) := by
  rw [mj_ias, hx_get (i := 1) rfl]
  simp only [if_true]
  rw [hx0, if_neg (nI_in hj hn), nI_clamp (by omega), hx_set]
  rfl
theorem hx_ias2 {o o2 : mj_E} {n j : Nat} {f : Nat → Int32} {x v : Int32} (hx0 : x = nI j) (hj : j < n) (hn : n < 2 ^ 31) : mj_ias V (hx V I J ks q sl (o :: o2 :: .inl (0, n, .inl f) :: E)) (V.1 + (hq_pa ks ks.length + 2)) x v = some (hx V I J ks q sl (o :: o2 :: .inl (0, n, .inl (upd f j v)) :: E)) := by
  rw [mj_ias, hx_get (i := 2) rfl]
  simp only [if_true]
  rw [hx0, if_neg (nI_in hj hn), nI_clamp (by omega), hx_set]
  rfl
theorem hq_off_app (k : Nat) {p : Nat} (h : p ≤ ks.length) : hq_off (ks ++ [k]) p = hq_off ks p := by
  unfold hq_off
  rw [List.take_append_of_le_length h]
theorem hq_pa_app (k : Nat) {p : Nat} (h : p ≤ ks.length) : hq_pa (ks ++ [k]) p = hq_pa ks p := by
  unfold hq_pa
  rw [hq_off_app k h]
end HX
theorem hq_pgs_app {V : mj_V} {I : hq_I} {J : hq_J} {k : Nat} : ∀ (ks : List Nat) (p a : Nat), hq_pgs V I J p a (ks ++ [k]) = hq_pgs V I J p a ks ++ hq_pg V I J (p + ks.length) (a + hq_off ks ks.length) k
  | [], p, a => by simp [hq_pgs, hq_off]
  | k0 :: ks, p, a => by
    rw [List.cons_append, hq_pgs, hq_pgs_app ks, hq_pgs, List.append_assoc, List.length_cons, hq_off_succ]
    rw [show p + 1 + ks.length = p + (ks.length + 1) by omega, Nat.add_assoc]
theorem hq_pgs_cg {V : mj_V} {I I' : hq_I} {J : hq_J} : ∀ (ks : List Nat) (p a : Nat), (∀ id, 1000 ≤ id → id < 1000 + 4 * (p + ks.length) → I' id = I id) → hq_pgs V I' J p a ks = hq_pgs V I J p a ks
  | [], _, _, _ => rfl
  | k :: ks, p, a, h => by
    rw [hq_pgs, hq_pgs, hq_pgs_cg ks (p + 1) (a + hq_pl k) (fun id h1 h2 => h id h1 (by rw [List.length_cons]; omega)), hq_pg, hq_pg, hq_ob_p (h _ (by omega) (by rw [List.length_cons]; omega)), h (1001 + 4 * p) (by omega) (by rw [List.length_cons]; omega), h (1002 + 4 * p) (by omega) (by rw [List.length_cons]; omega)]
/-- the numbers with a page more -/
def vnew (I : hq_I) (p : Nat) (F0 F1 F2 : Nat → Int32) : hq_I := va_up (va_up (va_up I (1000 + 4 * p) F0) (1001 + 4 * p) F1) (1002 + 4 * p) F2
theorem vnew_lo {I : hq_I} {p id : Nat} {F0 F1 F2 : Nat → Int32} (h : id < 1000 + 4 * p) : vnew I p F0 F1 F2 id = I id := by
  unfold vnew
  rw [va_up_ne _ _ (by omega), va_up_ne _ _ (by omega), va_up_ne _ _ (by omega)]
theorem vnew_0 {I : hq_I} {p : Nat} {F0 F1 F2 : Nat → Int32} : vnew I p F0 F1 F2 (1000 + 4 * p) = F0 := by
  unfold vnew
  rw [va_up_ne _ _ (by omega), va_up_ne _ _ (by omega), va_up_self]
theorem vnew_1 {I : hq_I} {p : Nat} {F0 F1 F2 : Nat → Int32} : vnew I p F0 F1 F2 (1001 + 4 * p) = F1 := by
  unfold vnew
  rw [va_up_ne _ _ (by omega), va_up_self]
theorem vnew_2 {I : hq_I} {p : Nat} {F0 F1 F2 : Nat → Int32} : vnew I p F0 F1 F2 (1002 + 4 * p) = F2 := by
  unfold vnew
  rw [va_up_self]
/-- what an object of a page's class holds -/
def hq_of (V : mj_V) (k P : Nat) (F0 : Nat → Int32) (g : Nat) : Value := if mj_has (hq_pc k) g = true then (if hq_rf g = true then .ref (V.1 + (P + hq_dl g)) else .int (F0 g)) else mj_born g
theorem hx_done {V : mj_V} {I : hq_I} {J : hq_J} {ks : List Nat} {q sl k : Nat} {F0 F1 F2 : Nat → Int32} {f : Nat → Value} {as : List mj_E} (hq : q ≤ ks.length) (hf : f = hq_of V k (hq_pa ks ks.length) F0) (ha : as = if k = 1 then [.inl (0, 5, .inl F1), .inl (0, 5, .inl F2)] else if k = 2 ∨ k = 3 then [.inl (0, 10, .inl F1)] else []) : hx V I J ks q sl (.inr (hq_pc k, f) :: as) = hp V (vnew I ks.length F0 F1 F2) J (ks ++ [k]) q sl := by
  have e1 : (List.range 81).map (hq_fx V (vnew I ks.length F0 F1 F2) J (ks ++ [k]) q) = (List.range 81).map (hq_fx V I J ks q) := by
    apply List.map_congr_left
    intro j hj
    have hj := List.mem_range.mp hj
    rw [hq_fx_I (I := I) (vnew_lo (by omega))]
    have e2 : hq_refs q (fun p => V.1 + hq_pa (ks ++ [k]) p) = hq_refs q (fun p => V.1 + hq_pa ks p) := by
      funext r
      unfold hq_refs
      by_cases hr : r < q
      · rw [if_pos hr, if_pos hr]
        show some (V.1 + hq_pa (ks ++ [k]) r) = some (V.1 + hq_pa ks r)
        rw [hq_pa_app k (by omega)]
      · rw [if_neg hr, if_neg hr]
    unfold hq_fx
    rw [e2]
  have e3 : hq_pg V (vnew I ks.length F0 F1 F2) J (0 + ks.length) (81 + hq_off ks ks.length) k = .inr (hq_pc k, f) :: as := by
    rw [Nat.zero_add, hq_pg, vnew_1, vnew_2, ha, hf]
    congr 3
    funext g
    unfold hq_ob hq_of
    by_cases hg : mj_has (hq_pc k) g = true
    · simp only [hg, if_true, hq_pc_lg k g hg, vnew_0]
      rfl
    · simp only [hg]
      rfl
  show (sl, hp_L V I J ks q ++ _) = (sl, hp_L V (vnew I ks.length F0 F1 F2) J (ks ++ [k]) q)
  rw [hp_L, hp_L, e1, hq_pgs_app, e3, hq_pgs_cg ks 0 81 (fun id h1 h2 => vnew_lo (by omega)), List.append_assoc]
/-- a page is kept -/
theorem hp_aas {V : mj_V} {I : hq_I} {J : hq_J} {ks : List Nat} {q sl k : Nat} {x : Int32} (hx : x = nI q) (hq : q < 40) (h : ks[q]? = some k) (hk : mj_isY (hq_pc k) 4 = true) : mj_aas V (hp V I J ks q sl) (V.1 + 3) x (V.1 + hq_pa ks q) = some (hp V I J ks (q + 1) sl) := by
  have e : hq_fx V I J ks q 3 = .inl (5, 40, .inr (.inr (.inr (.inr (hq_refs q (fun p => V.1 + hq_pa ks p)))))) := rfl
  rw [mj_aas, hp_get (by omega), hp_get0 h, e]
  simp only
  rw [if_pos ⟨by omega, by omega, hk⟩, hx, if_neg (nI_in hq (by omega)), nI_clamp (by omega), hp_setE (I' := I) (J' := J) (q' := q + 1) (by omega)]
  · have e2 : va_up (hq_refs q (fun p => V.1 + hq_pa ks p)) q (some (V.1 + hq_pa ks q)) = hq_refs (q + 1) (fun p => V.1 + hq_pa ks p) := by
      funext r
      unfold hq_refs va_up
      by_cases h1 : r = q
      · subst h1
        rw [if_pos rfl, if_pos (by omega)]
      · rw [if_neg h1]
        by_cases h2 : r < q
        · rw [if_pos (show r < q + 1 by omega)]
          exact if_pos h2
        · rw [if_neg (show ¬ r < q + 1 by omega)]
          exact if_neg h2
    rw [e2]
    rfl
  · intro j hj hj3
    unfold hq_fx
    simp only [hj3, if_false]
  · intro id _
    rfl
