/-! The heap as a function of the system's numbers: I (cell, place or field) for all ints, J (field) for the longs, ks the pages' kinds, q how many pages are kept, sl slots -/
abbrev hq_I : Type := Nat → Nat → Int32
abbrev hq_J : Type := Nat → Int64
def hq_rf (g : Nat) : Bool := [6, 9, 10, 11, 13, 18, 19, 20, 22, 26, 27, 28, 29, 30, 31, 32, 33, 34, 41, 42, 43, 44, 47, 48, 49, 50, 51, 52, 53, 54, 55, 56, 57, 58, 59, 60, 61, 62, 63, 64, 65, 66, 71, 72, 75, 76, 77].contains g
def hq_lg (g : Nat) : Bool := [39, 40, 68, 69, 78].contains g
def hq_dl (g : Nat) : Nat := ([(6, 1), (9, 1), (10, 3), (11, 4), (13, 1), (18, 1), (19, 2), (20, 1), (22, 1), (26, 1), (27, 2), (28, 3), (29, 4), (30, 5), (31, 6), (32, 7), (33, 9), (34, 10), (41, 1), (42, 2), (43, 3), (44, 4), (47, 5), (48, 6), (49, 7), (50, 8), (51, 9), (52, 10), (53, 11), (54, 12), (55, 13), (56, 14), (57, 15), (58, 16), (59, 17), (60, 18), (61, 19), (62, 20), (63, 21), (64, 22), (65, 23), (66, 24), (71, 25), (72, 26), (75, 27), (76, 28), (77, 29)].lookup g).getD 0
def hq_ar (k : Nat) : Option (Nat × Nat) := [(5, 0, 30), (6, 0, 6), (8, 0, 5), (9, 0, 5), (10, 2, 125), (12, 0, 40), (14, 0, 40), (16, 0, 40), (18, 0, 40), (20, 0, 40), (22, 0, 40), (24, 1, 40), (26, 1, 40), (28, 1, 40), (30, 1, 40), (33, 0, 5), (34, 0, 5), (35, 0, 10), (38, 0, 5), (39, 0, 5), (40, 0, 10), (43, 0, 5), (44, 0, 5), (45, 0, 10), (48, 0, 5), (49, 0, 5), (50, 0, 10), (52, 0, 240), (53, 0, 6), (54, 1, 160), (55, 0, 4), (56, 0, 40), (57, 0, 40), (58, 0, 40), (59, 0, 40), (60, 0, 200), (61, 0, 200), (62, 0, 400), (63, 0, 40), (64, 0, 40), (65, 0, 40), (66, 0, 40), (67, 2, 4), (68, 0, 20), (69, 0, 4), (70, 2, 4), (71, 2, 4), (72, 2, 4), (73, 0, 20), (74, 0, 40), (75, 0, 35), (76, 0, 6), (77, 0, 5), (78, 0, 5), (79, 0, 5), (80, 0, 4)].lookup k
def hq_ci (k : Nat) : Nat := ([(0, 10), (7, 5), (11, 7), (13, 7), (15, 7), (17, 7), (19, 7), (21, 7), (23, 8), (25, 8), (27, 8), (29, 8), (31, 3), (32, 5), (36, 3), (37, 5), (41, 3), (42, 5), (46, 3), (47, 5), (51, 11)].lookup k).getD 99
def hq_ob (V : mj_V) (I : hq_I) (J : hq_J) (ci id a g : Nat) : Value := if mj_has ci g = true then (if hq_rf g = true then .ref (V.1 + (a + hq_dl g)) else if hq_lg g = true then .long (J g) else .int (I id g)) else mj_born g
def hq_pl (k : Nat) : Nat := if k = 1 then 3 else if k = 2 ∨ k = 3 then 2 else 1
def hq_off (ks : List Nat) (p : Nat) : Nat := ((ks.take p).map hq_pl).sum
/-- the address of a page, over the base -/
def hq_pa (ks : List Nat) (p : Nat) : Nat := 81 + hq_off ks p
def hq_pc (k : Nat) : Nat := if k = 0 then 4 else if k = 1 then 6 else if k = 2 then 2 else if k = 3 then 1 else if k = 4 then 9 else 0
def hq_refs (n : Nat) (f : Nat → Nat) : Nat → Option Nat := fun r => if r < n then some (f r) else none
def hq_fx (V : mj_V) (I : hq_I) (J : hq_J) (ks : List Nat) (q k : Nat) : mj_E :=
  if k = 1 then .inl (3, 6, .inr (.inr (.inr (.inr (hq_refs 6 (fun r => V.1 + (11 + 2 * r)))))))
  else if k = 2 then .inl (4, 4, .inr (.inr (.inr (.inr (hq_refs 4 (fun t => V.1 + (23 + 2 * t)))))))
  else if k = 3 then .inl (5, 40, .inr (.inr (.inr (.inr (hq_refs q (fun p => V.1 + hq_pa ks p))))))
  else if k = 4 then .inl (6, 4, .inr (.inr (.inr (.inr (hq_refs 4 (fun m => V.1 + (31 + 5 * m)))))))
  else match hq_ar k with
    | some tn => .inl (tn.1, tn.2, .inl (I k))
    | none => .inr (hq_ci k, hq_ob V I J (hq_ci k) k k)
def hq_pg (V : mj_V) (I : hq_I) (J : hq_J) (p a k : Nat) : List mj_E :=
  .inr (hq_pc k, hq_ob V I J (hq_pc k) (1000 + 4 * p) a) :: (if k = 1 then [.inl (0, 5, .inl (I (1001 + 4 * p))), .inl (0, 5, .inl (I (1002 + 4 * p)))] else if k = 2 ∨ k = 3 then [.inl (0, 10, .inl (I (1001 + 4 * p)))] else [])
def hq_pgs (V : mj_V) (I : hq_I) (J : hq_J) : Nat → Nat → List Nat → List mj_E
  | _, _, [] => []
  | p, a, k :: ks => hq_pg V I J p a k ++ hq_pgs V I J (p + 1) (a + hq_pl k) ks
def hp_L (V : mj_V) (I : hq_I) (J : hq_J) (ks : List Nat) (q : Nat) : List mj_E := (List.range 81).map (hq_fx V I J ks q) ++ hq_pgs V I J 0 81 ks
def hp (V : mj_V) (I : hq_I) (J : hq_J) (ks : List Nat) (q sl : Nat) : mj_H := (sl, hp_L V I J ks q)
theorem hq_pg_len (V : mj_V) (I : hq_I) (J : hq_J) (p a k : Nat) : (hq_pg V I J p a k).length = hq_pl k := by
  unfold hq_pg hq_pl
  split
  · rfl
  · split <;> rfl
theorem hq_off_zero (ks : List Nat) : hq_off ks 0 = 0 := rfl
theorem hq_off_succ (k : Nat) (ks : List Nat) (p : Nat) : hq_off (k :: ks) (p + 1) = hq_pl k + hq_off ks p := by simp [hq_off]
theorem hq_pgs_at (V : mj_V) (I : hq_I) (J : hq_J) : ∀ (ks : List Nat) (p0 a0 p i : Nat) (k : Nat), ks[p]? = some k → i < hq_pl k → (hq_pgs V I J p0 a0 ks)[hq_off ks p + i]? = (hq_pg V I J (p0 + p) (a0 + hq_off ks p) k)[i]?
  | [], _, _, _, _, _, h, _ => by simp at h
  | k0 :: ks, p0, a0, 0, i, k, h, hi => by
    simp only [List.getElem?_cons_zero, Option.some.injEq] at h
    subst h
    rw [hq_pgs, hq_off_zero, Nat.zero_add, List.getElem?_append_left (by rw [hq_pg_len]; exact hi)]
    simp
  | k0 :: ks, p0, a0, p + 1, i, k, h, hi => by
    simp only [List.getElem?_cons_succ] at h
    rw [hq_pgs, hq_off_succ, List.getElem?_append_right (by rw [hq_pg_len]; omega), hq_pg_len, show hq_pl k0 + hq_off ks p + i - hq_pl k0 = hq_off ks p + i by omega, hq_pgs_at V I J ks (p0 + 1) (a0 + hq_pl k0) p i k h hi]
    rw [show p0 + 1 + p = p0 + (p + 1) by omega, show a0 + hq_pl k0 + hq_off ks p = a0 + (hq_pl k0 + hq_off ks p) by omega]
theorem hq_pgs_len (V : mj_V) (I : hq_I) (J : hq_J) : ∀ (ks : List Nat) (p a : Nat), (hq_pgs V I J p a ks).length = hq_off ks ks.length
  | [], _, _ => rfl
  | k :: ks, p, a => by rw [hq_pgs, List.length_append, hq_pg_len, hq_pgs_len V I J ks, List.length_cons, hq_off_succ]
theorem hp_len (V : mj_V) (I : hq_I) (J : hq_J) (ks : List Nat) (q : Nat) : (hp_L V I J ks q).length = hq_pa ks ks.length := by
  rw [hp_L, List.length_append, List.length_map, List.length_range, hq_pgs_len]
  rfl
section HP
variable {V : mj_V} {I : hq_I} {J : hq_J} {ks : List Nat} {q sl : Nat}
theorem hp_at {k : Nat} (hk : k < 81) : (hp_L V I J ks q)[k]? = some (hq_fx V I J ks q k) := by
  rw [hp_L, List.getElem?_append_left (by simp [hk]), List.getElem?_map, List.getElem?_range hk]
  rfl
theorem hp_pat {p i k : Nat} (hp : ks[p]? = some k) (hi : i < hq_pl k) : (hp_L V I J ks q)[hq_pa ks p + i]? = (hq_pg V I J p (hq_pa ks p) k)[i]? := by
  rw [hp_L, List.getElem?_append_right (by simp only [List.length_map, List.length_range]; unfold hq_pa; omega)]
  simp only [List.length_map, List.length_range]
  rw [show hq_pa ks p + i - 81 = hq_off ks p + i by unfold hq_pa; omega, hq_pgs_at V I J ks 0 81 p i k hp hi, Nat.zero_add]
  rfl
theorem hp_get {k : Nat} (hk : k < 81) : mj_get V (hp V I J ks q sl) (V.1 + k) = some (hq_fx V I J ks q k) := by
  rw [mj_get, if_pos (Nat.le_add_right _ _), Nat.add_sub_cancel_left]
  exact hp_at hk
theorem hp_getp {p i k : Nat} (h : ks[p]? = some k) (hi : i < hq_pl k) : mj_get V (hp V I J ks q sl) (V.1 + (hq_pa ks p + i)) = (hq_pg V I J p (hq_pa ks p) k)[i]? := by
  rw [mj_get, if_pos (Nat.le_add_right _ _), Nat.add_sub_cancel_left]
  exact hp_pat h hi
/-- an object of the fixed part -/
def hq_o (k : Nat) : Bool := decide (k < 81) && (!(decide (1 ≤ k ∧ k ≤ 4)) && (hq_ar k).isNone)
theorem hq_fx_o {k : Nat} (h : hq_o k = true) : k < 81 ∧ hq_fx V I J ks q k = .inr (hq_ci k, hq_ob V I J (hq_ci k) k k) := by
  simp only [hq_o, Bool.and_eq_true, decide_eq_true_eq, Bool.not_eq_true', decide_eq_false_iff_not, Option.isNone_iff_eq_none] at h
  obtain ⟨h1, h2, h3⟩ := h
  refine ⟨h1, ?_⟩
  rw [hq_fx, if_neg (by omega), if_neg (by omega), if_neg (by omega), if_neg (by omega), h3]
theorem hq_fx_a {k t n : Nat} (hk : k < 81) (h : hq_ar k = some (t, n)) : hq_fx V I J ks q k = .inl (t, n, .inl (I k)) := by
  have h4 : ¬ (1 ≤ k ∧ k ≤ 4) := by
    intro hh
    rcases (show k = 1 ∨ k = 2 ∨ k = 3 ∨ k = 4 by omega) with rfl | rfl | rfl | rfl <;> cases h
  rw [hq_fx, if_neg (by omega), if_neg (by omega), if_neg (by omega), if_neg (by omega), h]
def hq_fi (k g : Nat) : Bool := hq_o k && (mj_has (hq_ci k) g && (!(hq_rf g) && !(hq_lg g)))
def hq_fr (k g : Nat) : Bool := hq_o k && (mj_has (hq_ci k) g && hq_rf g)
def hq_fl (k g : Nat) : Bool := hq_o k && (mj_has (hq_ci k) g && (!(hq_rf g) && hq_lg g))
theorem hp_cls {k : Nat} (h : hq_o k = true) : mj_cls V (hp V I J ks q sl) (V.1 + k) = some (hq_ci k) := by
  obtain ⟨h1, h2⟩ := hq_fx_o (V := V) (I := I) (J := J) (ks := ks) (q := q) h
  rw [mj_cls, hp_get h1, h2]
theorem hp_fi {k g : Nat} (h : hq_fi k g = true) : mj_fld V (hp V I J ks q sl) (V.1 + k) g = some (.int (I k g)) := by
  simp only [hq_fi, Bool.and_eq_true, Bool.not_eq_true'] at h
  obtain ⟨h0, h1, h2, h3⟩ := h
  obtain ⟨h4, h5⟩ := hq_fx_o (V := V) (I := I) (J := J) (ks := ks) (q := q) h0
  rw [mj_fld, hp_get h4, h5]
  simp [h1, h2, h3, hq_ob]
theorem hp_fr {k g : Nat} (h : hq_fr k g = true) : mj_fld V (hp V I J ks q sl) (V.1 + k) g = some (.ref (V.1 + (k + hq_dl g))) := by
  simp only [hq_fr, Bool.and_eq_true] at h
  obtain ⟨h0, h1, h2⟩ := h
  obtain ⟨h4, h5⟩ := hq_fx_o (V := V) (I := I) (J := J) (ks := ks) (q := q) h0
  rw [mj_fld, hp_get h4, h5]
  simp [h1, h2, hq_ob]
theorem hp_fl {k g : Nat} (h : hq_fl k g = true) : mj_fld V (hp V I J ks q sl) (V.1 + k) g = some (.long (J g)) := by
  simp only [hq_fl, Bool.and_eq_true, Bool.not_eq_true'] at h
  obtain ⟨h0, h1, h2, h3⟩ := h
  obtain ⟨h4, h5⟩ := hq_fx_o (V := V) (I := I) (J := J) (ks := ks) (q := q) h0
  rw [mj_fld, hp_get h4, h5]
  simp [h1, h2, h3, hq_ob]
def hq_in (x : Int32) (n j : Nat) : Prop := x = nI j ∧ j < n
theorem hp_ial {k n j : Nat} {x : Int32} (hk : k < 81) (h : hq_ar k = some (0, n)) (hx : x = nI j) (hj : j < n) (hn : n < 2 ^ 31) : mj_ial V (hp V I J ks q sl) (V.1 + k) x = some (I k j) := by
  have e : mj_ai V (hp V I J ks q sl) 0 (V.1 + k) = some (n, I k) := by
    rw [mj_ai, if_pos (Nat.le_add_right _ _), Nat.add_sub_cancel_left]
    show (match (hp_L V I J ks q)[k]? with | some (.inl (t', n, .inl f)) => if t' = 0 then some (n, f) else none | _ => none) = _
    rw [hp_at hk, hq_fx_a hk h]
    rfl
  rw [mj_ial, e, Option.bind_some, hx, if_neg (nI_in hj hn), nI_clamp (by omega)]
theorem hp_bal {k t n j : Nat} {x : Int32} (hk : k < 81) (h : hq_ar k = some (t, n)) (ht : t = 1 ∨ t = 2) (hx : x = nI j) (hj : j < n) (hn : n < 2 ^ 31) : mj_bal V (hp V I J ks q sl) (V.1 + k) x = some (I k j) := by
  rw [mj_bal, hp_get hk, hq_fx_a hk h]
  simp only
  rw [if_pos ht, hx, if_neg (nI_in hj hn), nI_clamp (by omega)]
end HP
