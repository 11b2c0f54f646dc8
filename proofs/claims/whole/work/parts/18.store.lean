/-! what the heap is behind a store -/
section HS
variable {V : mj_V} {I I' : hq_I} {J J' : hq_J} {ks : List Nat} {q sl : Nat}
theorem hq_fx_I {j : Nat} (h : I' j = I j) : hq_fx V I' J ks q j = hq_fx V I J ks q j := by
  have e : hq_ob V I' J (hq_ci j) j j = hq_ob V I J (hq_ci j) j j := by
    funext g
    simp only [hq_ob, h]
  simp only [hq_fx, h, e]
theorem hq_pc_lg : ∀ k g : Nat, mj_has (hq_pc k) g = true → hq_lg g = false := by
  have h : ∀ c ∈ [4, 6, 2, 1, 9, 0], ∀ g ∈ (mj_gi.getD c []), hq_lg g = false := by decide
  intro k g hg
  have hm : g ∈ mj_gi.getD (hq_pc k) [] := by simpa [mj_has] using hg
  refine h (hq_pc k) ?_ g hm
  unfold hq_pc
  split
  · decide
  · split
    · decide
    · split
      · decide
      · split
        · decide
        · split <;> decide
theorem hq_ob_p {p a k : Nat} (h : I' (1000 + 4 * p) = I (1000 + 4 * p)) : hq_ob V I' J' (hq_pc k) (1000 + 4 * p) a = hq_ob V I J (hq_pc k) (1000 + 4 * p) a := by
  funext g
  unfold hq_ob
  by_cases hg : mj_has (hq_pc k) g = true
  · have := hq_pc_lg k g hg
    simp [hg, this, h]
  · simp [hg]
theorem hq_pgs_I : ∀ (ks : List Nat) (p a : Nat), (∀ id, 1000 ≤ id → I' id = I id) → hq_pgs V I' J' p a ks = hq_pgs V I J p a ks
  | [], _, _, _ => rfl
  | k :: ks, p, a, h => by
    rw [hq_pgs, hq_pgs, hq_pgs_I ks (p + 1) (a + hq_pl k) h, hq_pg, hq_pg, hq_ob_p (h _ (by omega)), h (1001 + 4 * p) (by omega), h (1002 + 4 * p) (by omega)]
theorem hp_setE {k q' : Nat} {e : mj_E} (hk : k < 81) (he : hq_fx V I' J' ks q' k = e) (ho : ∀ j, j < 81 → j ≠ k → hq_fx V I' J' ks q' j = hq_fx V I J ks q j) (hg : ∀ id, 1000 ≤ id → I' id = I id) : mj_set V (hp V I J ks q sl) (V.1 + k) e = hp V I' J' ks q' sl := by
  have hl : (hp_L V I J ks q).set k e = hp_L V I' J' ks q' := by
    rw [hp_L, hp_L, List.set_append_left _ _ (by simp [hk]), hq_pgs_I (I' := I') (I := I) (J' := J') (J := J) ks 0 81 hg]
    congr 1
    apply List.ext_getElem?
    intro j
    by_cases hj : k = j
    · subst hj
      rw [List.getElem?_set_self (by simp [hk]), List.getElem?_map, List.getElem?_range hk, ← he]
      rfl
    · rw [List.getElem?_set_ne hj, List.getElem?_map, List.getElem?_map]
      by_cases hj2 : j < 81
      · rw [List.getElem?_range hj2, Option.map_some, Option.map_some, ho j hj2 (fun z => hj z.symm)]
      · rw [List.getElem?_eq_none (by simp; omega)]
        rfl
  show (sl, (hp_L V I J ks q).set (V.1 + k - V.1) e) = (sl, hp_L V I' J' ks q')
  rw [Nat.add_sub_cancel_left, hl]
theorem hp_setI {k : Nat} {e : mj_E} (hk : k < 81) {f : Nat → Int32} (he : hq_fx V (va_up I k f) J ks q k = e) : mj_set V (hp V I J ks q sl) (V.1 + k) e = hp V (va_up I k f) J ks q sl :=
  hp_setE hk he (fun j _ hj => hq_fx_I (va_up_ne _ _ hj)) (fun id hid => va_up_ne _ _ (by omega))
theorem hp_ias {k n j : Nat} {x v : Int32} (hk : k < 81) (h : hq_ar k = some (0, n)) (hx : x = nI j) (hj : j < n) (hn : n < 2 ^ 31) : mj_ias V (hp V I J ks q sl) (V.1 + k) x v = some (hp V (va_up I k (upd (I k) j v)) J ks q sl) := by
  rw [mj_ias, hp_get hk, hq_fx_a hk h]
  simp only [if_true]
  rw [hx, if_neg (nI_in hj hn), nI_clamp (by omega), hp_setI hk (f := upd (I k) j v)]
  rw [hq_fx_a hk h, va_up_self]
theorem hp_bas1 {k n j : Nat} {x v : Int32} (hk : k < 81) (h : hq_ar k = some (1, n)) (hx : x = nI j) (hj : j < n) (hn : n < 2 ^ 31) : mj_bas V (hp V I J ks q sl) (V.1 + k) x v = some (hp V (va_up I k (upd (I k) j v.toInt8.toInt32)) J ks q sl) := by
  rw [mj_bas, hp_get hk, hq_fx_a hk h]
  simp only [if_true]
  rw [hx, if_neg (nI_in hj hn), nI_clamp (by omega), hp_setI hk (f := upd (I k) j v.toInt8.toInt32)]
  rw [hq_fx_a hk h, va_up_self]
theorem hp_bas2 {k n j : Nat} {x v : Int32} (hk : k < 81) (h : hq_ar k = some (2, n)) (hx : x = nI j) (hj : j < n) (hn : n < 2 ^ 31) : mj_bas V (hp V I J ks q sl) (V.1 + k) x v = some (hp V (va_up I k (upd (I k) j (v &&& 1))) J ks q sl) := by
  rw [mj_bas, hp_get hk, hq_fx_a hk h]
  simp only [if_true, show ¬ ((2 : Nat) = 1) by decide, if_false]
  rw [hx, if_neg (nI_in hj hn), nI_clamp (by omega), hp_setI hk (f := upd (I k) j (v &&& 1))]
  rw [hq_fx_a hk h, va_up_self]
theorem hp_sfi {k g : Nat} {x : Int32} (h : hq_fi k g = true) : mj_sfl V (hp V I J ks q sl) (V.1 + k) g (.int x) = some (hp V (va_up I k (upd (I k) g x)) J ks q sl) := by
  simp only [hq_fi, Bool.and_eq_true, Bool.not_eq_true'] at h
  obtain ⟨h0, h1, h2, h3⟩ := h
  obtain ⟨h4, h5⟩ := hq_fx_o (V := V) (I := I) (J := J) (ks := ks) (q := q) h0
  rw [mj_sfl, hp_get h4, h5]
  simp only [h1, if_true]
  rw [hp_setI h4 (f := upd (I k) g x)]
  rw [(hq_fx_o h0).2]
  congr 2
  funext g'
  unfold hq_ob
  by_cases hg : g' = g
  · subst hg
    simp [h1, h2, h3, va_up, upd]
  · simp [hg, va_up, upd]
theorem hp_sfl {k g : Nat} {x : Int64} (h : hq_fl k g = true) (ho : ∀ j, j < 81 → j ≠ k → mj_has (hq_ci j) g = false) : mj_sfl V (hp V I J ks q sl) (V.1 + k) g (.long x) = some (hp V I (vp_updL J g x) ks q sl) := by
  simp only [hq_fl, Bool.and_eq_true, Bool.not_eq_true'] at h
  obtain ⟨h0, h1, h2, h3⟩ := h
  obtain ⟨h4, h5⟩ := hq_fx_o (V := V) (I := I) (J := J) (ks := ks) (q := q) h0
  rw [mj_sfl, hp_get h4, h5]
  simp only [h1, if_true]
  rw [hp_setE h4 (I' := I) (J' := vp_updL J g x) (q' := q)]
  · rw [(hq_fx_o h0).2]
    congr 2
    funext g'
    unfold hq_ob
    by_cases hg : g' = g
    · subst hg
      simp [h1, h2, h3, va_up, vp_updL]
    · simp [hg, va_up, vp_updL]
  · intro j hj hjk
    have e : hq_ob V I (vp_updL J g x) (hq_ci j) j j = hq_ob V I J (hq_ci j) j j := by
      funext g'
      unfold hq_ob
      by_cases hg : g' = g
      · subst hg
        simp [ho j hj hjk]
      · simp [vp_updL, hg]
    simp only [hq_fx, e]
  · intro id _
    rfl
theorem hp_cpy {k0 k1 n0 n1 sp dp n : Nat} {xs xd xn : Int32} (hk0 : k0 < 81) (hk1 : k1 < 81) (h0 : hq_ar k0 = some (0, n0)) (h1 : hq_ar k1 = some (0, n1)) (e1 : xs = nI sp) (e2 : xd = nI dp) (e3 : xn = nI n) (hs : sp + n ≤ n0) (hd : dp + n ≤ n1) (hn0 : n0 < 2 ^ 31) (hn1 : n1 < 2 ^ 31) : mj_cpy V (hp V I J ks q sl) (V.1 + k0) xs (V.1 + k1) xd xn = some (hp V (va_up I k1 (va_cpy (I k0) (I k1) sp dp n)) J ks q sl) := by
  rw [mj_cpy, hp_get hk0, hp_get hk1, hq_fx_a hk0 h0, hq_fx_a hk1 h1]
  simp only
  rw [if_pos, e1, e2, e3, nI_clamp (by omega), nI_clamp (by omega), nI_clamp (by omega), hp_setI hk1 (f := va_cpy (I k0) (I k1) sp dp n)]
  · rw [hq_fx_a hk1 h1, va_up_self]
  · rw [e1, e2, e3, nI_clamp (by omega), nI_clamp (by omega), nI_clamp (by omega)]
    exact ⟨trivial, trivial, nI_pos (by omega), nI_pos (by omega), nI_pos (by omega), hs, hd⟩
theorem hp_alen {k t n : Nat} (hk : k < 81) (h : hq_ar k = some (t, n)) (ht : t < 7) : mj_len V (hp V I J ks q sl) (V.1 + k) = some n := by
  rw [mj_len, if_pos (Nat.le_add_right _ _), hp_get hk, hq_fx_a hk h]
  simp [ht]
theorem hp_rows {r : Nat} (hr : r < 6) {x : Int32} (hx : x = nI r) : mj_aal V (hp V I J ks q sl) (V.1 + 1) x = some (some (V.1 + (11 + 2 * r))) := by
  rw [mj_aal, hp_get (by omega), hx]
  have e : hq_fx V I J ks q 1 = .inl (3, 6, .inr (.inr (.inr (.inr (hq_refs 6 (fun r => V.1 + (11 + 2 * r))))))) := rfl
  simp only [e]
  rw [if_pos (by omega), if_neg (nI_in hr (by omega)), nI_clamp (by omega), hq_refs, if_pos hr]
theorem hp_texts {r : Nat} (hr : r < 4) {x : Int32} (hx : x = nI r) : mj_aal V (hp V I J ks q sl) (V.1 + 2) x = some (some (V.1 + (23 + 2 * r))) := by
  rw [mj_aal, hp_get (by omega), hx]
  have e : hq_fx V I J ks q 2 = .inl (4, 4, .inr (.inr (.inr (.inr (hq_refs 4 (fun t => V.1 + (23 + 2 * t))))))) := rfl
  simp only [e]
  rw [if_pos (by omega), if_neg (nI_in hr (by omega)), nI_clamp (by omega), hq_refs, if_pos hr]
theorem hp_machs {r : Nat} (hr : r < 4) {x : Int32} (hx : x = nI r) : mj_aal V (hp V I J ks q sl) (V.1 + 4) x = some (some (V.1 + (31 + 5 * r))) := by
  rw [mj_aal, hp_get (by omega), hx]
  have e : hq_fx V I J ks q 4 = .inl (6, 4, .inr (.inr (.inr (.inr (hq_refs 4 (fun m => V.1 + (31 + 5 * m))))))) := rfl
  simp only [e]
  rw [if_pos (by omega), if_neg (nI_in hr (by omega)), nI_clamp (by omega), hq_refs, if_pos hr]
theorem hp_pages {r : Nat} (hr : r < q) (hq : q ≤ 40) {x : Int32} (hx : x = nI r) : mj_aal V (hp V I J ks q sl) (V.1 + 3) x = some (some (V.1 + hq_pa ks r)) := by
  rw [mj_aal, hp_get (by omega), hx]
  have e : hq_fx V I J ks q 3 = .inl (5, 40, .inr (.inr (.inr (.inr (hq_refs q (fun p => V.1 + hq_pa ks p)))))) := rfl
  simp only [e]
  rw [if_pos (by omega), if_neg (nI_in (show r < 40 by omega) (by omega)), nI_clamp (by omega), hq_refs, if_pos hr]
/-! pages -/
theorem hq_pg_0 {p a k : Nat} : (hq_pg V I J p a k)[0]? = some (.inr (hq_pc k, hq_ob V I J (hq_pc k) (1000 + 4 * p) a)) := rfl
theorem hq_pl_pos (k : Nat) : 0 < hq_pl k := by
  unfold hq_pl
  split
  · omega
  · split <;> omega
theorem hp_get0 {p k : Nat} (h : ks[p]? = some k) : mj_get V (hp V I J ks q sl) (V.1 + hq_pa ks p) = some (.inr (hq_pc k, hq_ob V I J (hq_pc k) (1000 + 4 * p) (hq_pa ks p))) := by
  have := hp_getp (V := V) (I := I) (J := J) (q := q) (sl := sl) h (hq_pl_pos k)
  rw [Nat.add_zero] at this
  rw [this, hq_pg_0]
theorem hp_pcls {p k : Nat} (h : ks[p]? = some k) : mj_cls V (hp V I J ks q sl) (V.1 + hq_pa ks p) = some (hq_pc k) := by
  rw [mj_cls, hp_get0 h]
theorem hp_pfi {p k g : Nat} (h : ks[p]? = some k) (hg : (mj_has (hq_pc k) g && !(hq_rf g)) = true) : mj_fld V (hp V I J ks q sl) (V.1 + hq_pa ks p) g = some (.int (I (1000 + 4 * p) g)) := by
  simp only [Bool.and_eq_true, Bool.not_eq_true'] at hg
  rw [mj_fld, hp_get0 h]
  simp [hg.1, hg.2, hq_ob, hq_pc_lg k g hg.1]
theorem hp_pfr {p k g : Nat} (h : ks[p]? = some k) (hg : (mj_has (hq_pc k) g && hq_rf g) = true) : mj_fld V (hp V I J ks q sl) (V.1 + hq_pa ks p) g = some (.ref (V.1 + (hq_pa ks p + hq_dl g))) := by
  simp only [Bool.and_eq_true] at hg
  rw [mj_fld, hp_get0 h]
  simp [hg.1, hg.2, hq_ob]
theorem hp_pial {p i n j : Nat} {f : Nat → Int32} {x : Int32} {k : Nat} (h : ks[p]? = some k) (hi : i < hq_pl k) (he : (hq_pg V I J p (hq_pa ks p) k)[i]? = some (.inl (0, n, .inl f))) (hx : x = nI j) (hj : j < n) (hn : n < 2 ^ 31) : mj_ial V (hp V I J ks q sl) (V.1 + (hq_pa ks p + i)) x = some (f j) := by
  have e : mj_ai V (hp V I J ks q sl) 0 (V.1 + (hq_pa ks p + i)) = some (n, f) := by
    rw [mj_ai, if_pos (Nat.le_add_right _ _), Nat.add_sub_cancel_left]
    show (match (hp_L V I J ks q)[hq_pa ks p + i]? with | some (.inl (t', n, .inl f)) => if t' = 0 then some (n, f) else none | _ => none) = _
    rw [hp_pat h hi, he]
    rfl
  rw [mj_ial, e, Option.bind_some, hx, if_neg (nI_in hj hn), nI_clamp (by omega)]
theorem hp_keys {p j : Nat} {x : Int32} (h : ks[p]? = some 1) (hx : x = nI j) (hj : j < 5) : mj_ial V (hp V I J ks q sl) (V.1 + (hq_pa ks p + 1)) x = some (I (1001 + 4 * p) j) :=
  hp_pial h (show 1 < hq_pl 1 by decide) rfl hx hj (by omega)
theorem hp_many {p j : Nat} {x : Int32} (h : ks[p]? = some 1) (hx : x = nI j) (hj : j < 5) : mj_ial V (hp V I J ks q sl) (V.1 + (hq_pa ks p + 2)) x = some (I (1002 + 4 * p) j) :=
  hp_pial h (show 2 < hq_pl 1 by decide) rfl hx hj (by omega)
theorem hp_sums {p j k : Nat} {x : Int32} (h : ks[p]? = some k) (hk : k = 2 ∨ k = 3) (hx : x = nI j) (hj : j < 10) : mj_ial V (hp V I J ks q sl) (V.1 + (hq_pa ks p + 1)) x = some (I (1001 + 4 * p) j) := by
  rcases hk with rfl | rfl
  · exact hp_pial h (show 1 < hq_pl 2 by decide) rfl hx hj (by omega)
  · exact hp_pial h (show 1 < hq_pl 3 by decide) rfl hx hj (by omega)
theorem hq_pgs_set {f : Nat → Int32} : ∀ (ks : List Nat) (p0 a0 p k : Nat), ks[p]? = some k → (hq_pgs V I J p0 a0 ks).set (hq_off ks p) (.inr (hq_pc k, hq_ob V (va_up I (1000 + 4 * (p0 + p)) f) J (hq_pc k) (1000 + 4 * (p0 + p)) (a0 + hq_off ks p))) = hq_pgs V (va_up I (1000 + 4 * (p0 + p)) f) J p0 a0 ks
  | [], _, _, _, _, h => by simp at h
  | k0 :: ks, p0, a0, 0, k, h => by
    simp only [List.getElem?_cons_zero, Option.some.injEq] at h
    subst h
    have e1 : ∀ (l : List Nat) (p a : Nat), p0 < p → hq_pgs V (va_up I (1000 + 4 * (p0 + 0)) f) J p a l = hq_pgs V I J p a l := by
      intro l
      induction l with
      | nil => intros; rfl
      | cons x l ih =>
        intro p a hp
        rw [hq_pgs, hq_pgs, ih (p + 1) (a + hq_pl x) (by omega), hq_pg, hq_pg, hq_ob_p (va_up_ne _ _ (by omega)), va_up_ne _ _ (show 1001 + 4 * p ≠ 1000 + 4 * (p0 + 0) by omega), va_up_ne _ _ (show 1002 + 4 * p ≠ 1000 + 4 * (p0 + 0) by omega)]
    rw [hq_pgs, hq_pgs, e1 ks (p0 + 1) _ (by omega), hq_off_zero, hq_pg, hq_pg, List.cons_append, List.set_cons_zero, Nat.add_zero, Nat.add_zero, va_up_ne _ _ (show 1001 + 4 * p0 ≠ 1000 + 4 * p0 by omega), va_up_ne _ _ (show 1002 + 4 * p0 ≠ 1000 + 4 * p0 by omega)]
    rfl
  | k0 :: ks, p0, a0, p + 1, k, h => by
    simp only [List.getElem?_cons_succ] at h
    have ih := hq_pgs_set (f := f) ks (p0 + 1) (a0 + hq_pl k0) p k h
    rw [hq_pgs, hq_pgs, hq_off_succ, List.set_append_right _ _ (by rw [hq_pg_len]; omega), hq_pg_len, show hq_pl k0 + hq_off ks p - hq_pl k0 = hq_off ks p by omega]
    rw [show p0 + 1 + p = p0 + (p + 1) by omega, show a0 + hq_pl k0 + hq_off ks p = a0 + (hq_pl k0 + hq_off ks p) by omega] at ih
    rw [ih, hq_pg, hq_pg, hq_ob_p (va_up_ne _ _ (show 1000 + 4 * p0 ≠ 1000 + 4 * (p0 + (p + 1)) by omega)), va_up_ne _ _ (show 1001 + 4 * p0 ≠ 1000 + 4 * (p0 + (p + 1)) by omega), va_up_ne _ _ (show 1002 + 4 * p0 ≠ 1000 + 4 * (p0 + (p + 1)) by omega)]
theorem hp_psfi {p k g : Nat} {x : Int32} (h : ks[p]? = some k) (hg : (mj_has (hq_pc k) g && !(hq_rf g)) = true) : mj_sfl V (hp V I J ks q sl) (V.1 + hq_pa ks p) g (.int x) = some (hp V (va_up I (1000 + 4 * p) (upd (I (1000 + 4 * p)) g x)) J ks q sl) := by
  simp only [Bool.and_eq_true, Bool.not_eq_true'] at hg
  rw [mj_sfl, hp_get0 h]
  simp only [hg.1, if_true]
  have e : va_up (hq_ob V I J (hq_pc k) (1000 + 4 * p) (hq_pa ks p)) g (.int x) = hq_ob V (va_up I (1000 + 4 * (0 + p)) (upd (I (1000 + 4 * p)) g x)) J (hq_pc k) (1000 + 4 * (0 + p)) (81 + hq_off ks p) := by
    funext g'
    unfold hq_ob
    rw [Nat.zero_add]
    by_cases hg' : g' = g
    · subst hg'
      simp [hg.1, hg.2, hq_pc_lg k g' hg.1, va_up, upd]
    · simp [hg', va_up, upd, hq_pa]
  rw [e]
  have hset := hq_pgs_set (V := V) (I := I) (J := J) (f := upd (I (1000 + 4 * p)) g x) ks 0 81 p k h
  have hm : (List.range 81).map (hq_fx V (va_up I (1000 + 4 * (0 + p)) (upd (I (1000 + 4 * p)) g x)) J ks q) = (List.range 81).map (hq_fx V I J ks q) := by
    apply List.map_congr_left
    intro j hj
    have := List.mem_range.mp hj
    exact hq_fx_I (va_up_ne _ _ (by omega))
  show some (sl, (hp_L V I J ks q).set (V.1 + hq_pa ks p - V.1) _) = some (sl, hp_L V (va_up I (1000 + 4 * p) (upd (I (1000 + 4 * p)) g x)) J ks q)
  rw [Nat.add_sub_cancel_left, hp_L, hp_L, List.set_append_right _ _ (by simp [hq_pa])]
  simp only [List.length_map, List.length_range]
  rw [show hq_pa ks p - 81 = hq_off ks p by unfold hq_pa; omega, hset, ← hm, Nat.zero_add]
end HS
