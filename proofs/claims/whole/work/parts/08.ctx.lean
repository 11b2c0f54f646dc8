/-! The small machine's heap beside the machine's -/
def mj_bad : Jvm.Cond → Bool
  | .methodLinkNest _ _ _ _ => true
  | .fieldLinkNest _ _ _ _ _ _ => true
  | .castable _ _ => true
  | .arrayOver (.object _) => true
  | _ => false
/-- the words that are carried along -/
def mj_ok (w : Jvm.Cond) : Bool := goodWord w || mj_bad w
theorem mj_word_move {s U : State} (hW : s.WarmedH U.vm) {a0 a : Array Value} {w : Jvm.Cond} (hg : mj_ok w = true) (h0 : w.before a0 s = true) : w.before a U = true := by
  unfold mj_ok at hg
  rcases Bool.or_eq_true _ _ ▸ hg with hg | hg
  · exact word_at hW (good_of_word hg) h0
  · unfold mj_bad at hg
    split at hg
    · exact va_Nw.use rfl (va_Nw.warmM hW (va_Nw.of rfl h0))
    · exact va_Nw.use rfl (va_Nw.warmF hW (va_Nw.of rfl h0))
    · exact va_Nw.use rfl (va_Nw.warmC hW (va_Nw.of rfl h0))
    · exact va_AO.use (va_AO.moved hW.alike (va_AO.of h0))
    · cases hg
abbrev mj_T : Type := List (ClassId × FieldType)
def mj_tr (tys : mj_T) : mj_E → va_E
  | .inl (t, a) => .inl ((tys.getD t (0, .int)).1, a)
  | .inr (ci, f) => .inr (ci, (mj_l ci).map f)
def mj_ws (V : mj_V) (tys : mj_T) (L : List mj_E) : va_W := L.mapIdx (fun k e => (V.1 + k, mj_tr tys e))
theorem mj_ws_get (V : mj_V) (tys : mj_T) (L : List mj_E) (k : Nat) : (mj_ws V tys L)[k]? = (L[k]?).map (fun e => (V.1 + k, mj_tr tys e)) := by
  simp [mj_ws, List.getElem?_mapIdx]
theorem mj_ws_len (V : mj_V) (tys : mj_T) (L : List mj_E) : (mj_ws V tys L).length = L.length := by simp [mj_ws]
theorem mj_ws_set (V : mj_V) (tys : mj_T) (L : List mj_E) (k : Nat) (e : mj_E) : (mj_ws V tys L).set k (V.1 + k, mj_tr tys e) = mj_ws V tys (L.set k e) := by
  apply List.ext_getElem?
  intro j
  rw [mj_ws_get]
  by_cases hj : k = j
  · subst hj
    by_cases hl : k < L.length
    · rw [List.getElem?_set_self (by rw [mj_ws_len]; exact hl), List.getElem?_set_self hl]
      rfl
    · rw [List.getElem?_eq_none (by rw [List.length_set, mj_ws_len]; omega), List.getElem?_eq_none (by rw [List.length_set]; omega)]
      rfl
  · rw [List.getElem?_set_ne hj, List.getElem?_set_ne hj, mj_ws_get]
theorem mj_ws_app (V : mj_V) (tys : mj_T) (L : List mj_E) (e : mj_E) : mj_ws V tys (L ++ [e]) = mj_ws V tys L ++ [(V.1 + L.length, mj_tr tys e)] := by
  simp [mj_ws, List.mapIdx_append]
def mj_D (V : mj_V) : Nat → Prop := fun q => V.1 ≤ q
theorem mj_ws_D (V : mj_V) (tys : mj_T) (L : List mj_E) : va_D (mj_D V) (mj_ws V tys L) := by
  refine ⟨fun i j x y hi hj he => ?_, fun k q hk => ?_⟩
  · rw [mj_ws_get] at hi hj
    obtain ⟨_, _, rfl⟩ := Option.map_eq_some_iff.mp hi
    obtain ⟨_, _, rfl⟩ := Option.map_eq_some_iff.mp hj
    simp only at he
    omega
  · rw [mj_ws_get] at hk
    obtain ⟨_, _, rfl⟩ := Option.map_eq_some_iff.mp hk
    exact Nat.le_add_right _ _
def mj_HR (V : mj_V) (D : va_G) (tys : mj_T) (h : mj_H) (H : Heap) : Prop := va_P D mj_cl (mj_ws V tys h.2) H
/-- what every method finds: the words, the classes' numbers, the arrays that nobody writes -/
def mj_X (V : mj_V) (D : va_G) (tys : mj_T) (s : State) : Prop :=
  (∀ (a : Array Value) (w : Jvm.Cond), w ∈ lw_tbl → mj_ok w = true → w.before a s = true) ∧ va_K D mj_cl tys s ∧ tys.map (fun q => q.2) = mj_at ∧ V.1 ≤ s.heap.size ∧
  (∀ k : Nat, k < 2 → va_Z "SignedPages" (mj_sn.getD k "") "[I" (.ref (V.2.1 k)) (mj_D V) s s.heap) ∧
  (∀ (a n : Nat) (f : Nat → Int32), V.2.2 a = some (n, f) → a < V.1 ∧ va_T .int a n (fun j => .int (f j)) (mj_D V) s s.heap) ∧
  (∀ q ∈ mj_cx, va_Nc (mj_nm q.1) (mj_nm q.2) s)
theorem mj_X.move {V : mj_V} {D : va_G} {tys : mj_T} {s U : State} {locs : List Loc} (hX : mj_X V D tys s) (hW : s.WarmedH U.vm) (hS : va_S (mj_D V) s.heap U.heap locs) : mj_X V D tys U := by
  obtain ⟨h1, h2, h3, h4, h5, h6, h7⟩ := hX
  refine ⟨fun a w hw hg => mj_word_move hW hg (h1 a w hw hg), h2.moved hW.alike, h3, Nat.le_trans h4 hS.1, fun k hk => ?_, fun a n f ha => ?_, fun q hq => (h7 q hq).moved hW.alike⟩
  · exact ((h5 k hk).moved hW.alike).kept hS.2.1
  · obtain ⟨q1, q2⟩ := h6 a n f ha
    exact ⟨q1, (q2.moved hW.alike).kept hS.2.1⟩
theorem mj_X.blind {V : mj_V} {D : va_G} {tys : mj_T} {U : State} (g : JFrame) (mk : MethodId) (a : Array Value) (hX : mj_X V D tys U) : mj_X V D tys (U.calling g mk a) :=
  hX.move (U := U.calling g mk a) (locs := []) (State.WarmedH.refl U) va_S.rf
theorem mj_tys {tys : mj_T} (h : tys.map (fun q => q.2) = mj_at) {t : Nat} (ht : t < 7) : tys[t]? = some ((tys.getD t (0, .int)).1, mj_at.getD t .int) := by
  have hl : tys.length = 7 := by
    have := congrArg List.length h
    rw [List.length_map] at this
    exact this
  have hl2 : mj_at.length = 7 := rfl
  have e1 : tys[t]? = some (tys[t]'(by omega)) := List.getElem?_eq_getElem (by omega)
  have e2 : (tys.map (fun q => q.2))[t]? = mj_at[t]? := by rw [h]
  rw [List.getElem?_map, e1, Option.map_some, List.getElem?_eq_getElem (by omega), Option.some.injEq] at e2
  rw [List.getD_eq_getElem?_getD, e1, Option.getD_some, List.getD_eq_getElem?_getD, List.getElem?_eq_getElem (show t < mj_at.length by omega), Option.getD_some, ← e2]
theorem mj_get_ws {V : mj_V} {tys : mj_T} {h : mj_H} {a : Nat} {e : mj_E} (hg : mj_get V h a = some e) : V.1 ≤ a ∧ h.2[a - V.1]? = some e ∧ (mj_ws V tys h.2)[a - V.1]? = some (a, mj_tr tys e) := by
  unfold mj_get at hg
  split at hg
  · rename_i hle
    refine ⟨hle, hg, ?_⟩
    rw [mj_ws_get, hg, Option.map_some, Nat.add_sub_cancel' hle]
  · cases hg
theorem mj_nm_X : ∀ ci, ci < 12 → (∀ a, a < (mj_c ci).2.2 → ∀ b, b < (mj_c ci).2.2 → a ≠ b → ((mj_c ci).2.1 a).2.1 ≠ ((mj_c ci).2.1 b).2.1) ∧ (∀ k, k < (mj_c ci).2.2 → parseFieldDescriptor ((mj_c ci).2.1 k).2.2.1 = some ((mj_ty.getD ci (fun _ => .int)) k))
  | 0, _ => ⟨nmX0, tyX0_ok⟩
  | 1, _ => ⟨nmX1, tyX1_ok⟩
  | 2, _ => ⟨nmX2, tyX2_ok⟩
  | 3, _ => ⟨nmX3, tyX3_ok⟩
  | 4, _ => ⟨nmX4, tyX4_ok⟩
  | 5, _ => ⟨nmX5, tyX5_ok⟩
  | 6, _ => ⟨nmX6, tyX6_ok⟩
  | 7, _ => ⟨nmX7, tyX7_ok⟩
  | 8, _ => ⟨nmX8, tyX8_ok⟩
  | 9, _ => ⟨nmX9, tyX9_ok⟩
  | 10, _ => ⟨nmX10, tyX10_ok⟩
  | 11, _ => ⟨nmX11, tyX11_ok⟩
  | n + 12, h => absurd h (by omega)
theorem mj_cf {ci : Nat} (hci : ci < 12) : mj_cl[ci]? = some (mj_c ci) ∧ (∀ w ∈ u_ws (mj_c ci).1 (mj_c ci).2.1 (mj_c ci).2.2, w ∈ lw_tbl) ∧ (mj_l ci).length = (mj_c ci).2.2 ∧ (∀ (k g : Nat), (mj_l ci)[k]? = some g → (mj_c ci).2.1 k = mj_g g ∧ mj_gt.getD g .int = (mj_ty.getD ci (fun _ => .int)) k) ∧
    Jvm.Cond.instantiable (mj_nm ci) (mj_c ci).2.2 ∈ lw_tbl ∧ Jvm.Cond.initialized (mj_nm ci) ∈ lw_tbl ∧ (mj_c ci).1 = mj_nm ci := by
  have h1 := List.all_eq_true.mp mj_lw_ok ci (List.mem_range.mpr hci)
  have h2 := List.all_eq_true.mp mj_nw_ok ci (List.mem_range.mpr hci)
  simp only [Bool.and_eq_true, beq_iff_eq, List.all_eq_true, List.mem_range, decide_eq_true_eq] at h1 h2
  refine ⟨?_, fun w hw => ?_, h1.1, fun k g hg => ?_, mj_wd_in h2.1, mj_wd_in h2.2.1, h2.2.2⟩
  · have : ci < mj_cl.length := hci
    rw [mj_c, List.getD_eq_getElem?_getD, List.getElem?_eq_getElem this, Option.getD_some]
  · obtain ⟨k, hk, rfl⟩ := List.mem_map.mp hw
    exact mj_wd_in (h1.2 k (List.mem_range.mp hk)).1
  · have hk : k < (mj_c ci).2.2 := by rw [← h1.1]; exact (List.getElem?_eq_some_iff.mp hg).1
    have h3 := (h1.2 k hk).2
    rw [List.getD_eq_getElem?_getD, hg, Option.getD_some] at h3
    exact h3
theorem mj_has_at {ci g : Nat} (h : mj_has ci g = true) : ci < 12 ∧ ∃ k : Nat, (mj_l ci)[k]? = some g := by
  unfold mj_has at h
  have hm : g ∈ mj_l ci := by simpa [mj_l] using h
  refine ⟨?_, List.getElem?_of_mem hm⟩
  rcases Nat.lt_or_ge ci 12 with q | q
  · exact q
  · have : mj_l ci = [] := by
      rw [mj_l, List.getD_eq_getElem?_getD, List.getElem?_eq_none (show mj_gi.length ≤ ci from q)]
      rfl
    rw [this] at hm
    cases hm
/-- each field once -/
theorem mj_l_inj {ci : Nat} (hci : ci < 12) {i j g : Nat} (hi : (mj_l ci)[i]? = some g) (hj : (mj_l ci)[j]? = some g) : i = j := by
  obtain ⟨-, -, hlen, hT, -⟩ := mj_cf hci
  have h1 : i < (mj_c ci).2.2 := by rw [← hlen]; exact (List.getElem?_eq_some_iff.mp hi).1
  have h2 : j < (mj_c ci).2.2 := by rw [← hlen]; exact (List.getElem?_eq_some_iff.mp hj).1
  rcases Nat.decEq i j with h | h
  · exact absurd (by rw [(hT i g hi).1, (hT j g hj).1]) ((mj_nm_X ci hci).1 i h1 j h2 h)
  · exact h
theorem mj_map_up {ci : Nat} (hci : ci < 12) {k g : Nat} (hk : (mj_l ci)[k]? = some g) (f : Nat → Value) (v : Value) : ((mj_l ci).map f).set k v = (mj_l ci).map (va_up f g v) := by
  apply List.ext_getElem?
  intro j
  by_cases hj : k = j
  · subst hj
    rw [List.getElem?_set_self (by rw [List.length_map]; exact (List.getElem?_eq_some_iff.mp hk).1), List.getElem?_map, hk, Option.map_some, va_up_self]
  · rw [List.getElem?_set_ne hj, List.getElem?_map, List.getElem?_map]
    cases hq : (mj_l ci)[j]? with
    | none => rfl
    | some g2 =>
      rw [Option.map_some, Option.map_some, va_up_ne]
      intro e
      subst e
      exact hj (mj_l_inj hci hk hq)
theorem mj_fl_spec {c i g : Nat} (h : mj_fl c i = some g) : ∃ ref : String, Jvm.Cond.fieldLink (mj_nm c) i ref (mj_g g).2.1 (mj_g g).2.2.1 ∈ lw_tbl ∧ (ref = (mj_g g).1 ∨ Jvm.Cond.sameField ref (mj_g g).1 (mj_g g).2.1 (mj_g g).2.2.1 ∈ lw_tbl) := by
  unfold mj_fl at h
  obtain ⟨q, hq, rfl⟩ := Option.map_eq_some_iff.mp h
  have h1 := List.all_eq_true.mp mj_FL_ok q (List.mem_of_find?_eq_some hq)
  have h2 := List.find?_some hq
  simp only [Bool.and_eq_true, beq_iff_eq, Bool.or_eq_true] at h1 h2
  obtain ⟨rfl, rfl⟩ := h2
  exact ⟨q.2.2.2.1, mj_wd_in h1.1, h1.2.imp id mj_wd_in⟩
theorem mj_kl_spec {c i k : Nat} (h : mj_kl c i = some k) : Jvm.Cond.classLink (mj_nm c) i (mj_nm k) ∈ lw_tbl := by
  unfold mj_kl at h
  obtain ⟨q, hq, rfl⟩ := Option.map_eq_some_iff.mp h
  have h1 := List.all_eq_true.mp mj_KL_ok q (List.mem_of_find?_eq_some hq)
  have h2 := List.find?_some hq
  simp only [Bool.and_eq_true, beq_iff_eq] at h2
  obtain ⟨rfl, rfl⟩ := h2
  exact mj_wd_in h1
theorem mj_fit_ok {ty : FieldType} {v : Value} (h : mj_fit ty v = true) : narrow ty v = v ∧ fits ty v = true := by
  unfold mj_fit at h
  split at h <;> first | exact ⟨rfl, rfl⟩ | (cases h; done) | skip
  rename_i x
  simp only [Bool.or_eq_true, beq_iff_eq] at h
  rcases h with rfl | rfl <;> exact ⟨rfl, rfl⟩
