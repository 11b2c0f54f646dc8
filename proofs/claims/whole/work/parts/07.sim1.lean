/-! The small machine's locals beside the machine's -/
def mj_as : Nat → mj_L → List (Nat × Value)
  | _, [] => []
  | i, none :: r => mj_as (i + 1) r
  | i, some v :: r => (i, v) :: mj_as (i + 1) r
theorem mj_as_mem : ∀ (loc : mj_L) (i j : Nat) (v : Value), (j, v) ∈ mj_as i loc ↔ ∃ k, j = i + k ∧ loc[k]? = some (some v)
  | [], i, j, v => by simp [mj_as]
  | none :: r, i, j, v => by
    rw [mj_as, mj_as_mem r (i + 1) j v]
    constructor
    · rintro ⟨k, h1, h2⟩
      exact ⟨k + 1, by omega, by simpa using h2⟩
    · rintro ⟨k, h1, h2⟩
      cases k with
      | zero => simp at h2
      | succ k => exact ⟨k, by omega, by simpa using h2⟩
  | some w :: r, i, j, v => by
    rw [mj_as, List.mem_cons, mj_as_mem r (i + 1) j v]
    constructor
    · rintro (h | ⟨k, h1, h2⟩)
      · cases h
        exact ⟨0, rfl, rfl⟩
      · exact ⟨k + 1, by omega, by simpa using h2⟩
    · rintro ⟨k, h1, h2⟩
      cases k with
      | zero =>
        left
        simp only [List.getElem?_cons_zero, Option.some.injEq] at h2
        subst h2
        rw [h1, Nat.add_zero]
      | succ k => exact Or.inr ⟨k, by omega, by simpa using h2⟩
theorem mj_as_mem0 {loc : mj_L} {j : Nat} {v : Value} : (j, v) ∈ mj_as 0 loc ↔ loc[j]? = some (some v) := by
  rw [mj_as_mem]
  constructor
  · rintro ⟨k, h1, h2⟩
    rw [h1, Nat.zero_add]
    exact h2
  · intro h
    exact ⟨j, by omega, h⟩
def mj_LR (lg : List Nat) (loc : mj_L) (ls : Array Slot) (nL : Nat) : Prop := loc.length = nL ∧ lv_has ls nL (mj_as 0 loc) ∧ ∀ (j : Nat) (v : Value), loc[j]? = some (some v) → v.category = 2 → lg.contains j = true
theorem mj_ld_some {loc : mj_L} {i : Nat} {v : Value} (h : mj_ld loc i = some v) : loc[i]? = some (some v) := by
  unfold mj_ld at h
  split at h
  · rename_i w hw
    cases h
    exact hw
  · cases h
theorem mj_LR_ld {lg : List Nat} {loc : mj_L} {ls : Array Slot} {nL i : Nat} {v : Value} (h : mj_LR lg loc ls nL) (hi : mj_ld loc i = some v) : ls[i]? = some (.val v) :=
  h.2.1.2.2 (i, v) (mj_as_mem0.mpr (mj_ld_some hi))
theorem mj_LR_as {lg : List Nat} {loc : mj_L} {ls : Array Slot} {nL i : Nat} {v : Value} (h : mj_LR lg loc ls nL) (hi : mj_ld loc i = some v) : ∃ k : Nat, (mj_as 0 loc)[k]? = some (i, v) :=
  List.getElem?_of_mem (mj_as_mem0.mpr (mj_ld_some hi))
/-- what a store leaves of another place -/
theorem mj_pre_get (lg : List Nat) (loc : mj_L) (i j : Nat) (v : Value) (h : (mj_pre lg loc i)[j]? = some (some v)) : loc[j]? = some (some v) ∧ ¬ (j + 1 = i ∧ lg.contains j = true) := by
  cases i with
  | zero => exact ⟨h, by omega⟩
  | succ k =>
    simp only [mj_pre] at h
    by_cases hk : lg.contains k = true
    · rw [if_pos hk] at h
      by_cases hj : k = j
      · subst hj
        rw [List.getElem?_set_self'] at h
        cases hq : loc[k]? <;> rw [hq] at h <;> simp at h
      · rw [List.getElem?_set_ne hj] at h
        exact ⟨h, by omega⟩
    · rw [if_neg hk] at h
      refine ⟨h, ?_⟩
      rintro ⟨h1, h2⟩
      obtain rfl : j = k := by omega
      exact hk h2
theorem mj_pre_len (lg : List Nat) (loc : mj_L) (i : Nat) : (mj_pre lg loc i).length = loc.length := by
  cases i with
  | zero => rfl
  | succ k => simp only [mj_pre]; split <;> simp
theorem mj_LR_st1 {lg : List Nat} {loc loc' : mj_L} {ls : Array Slot} {nL i : Nat} {v : Value} (h : mj_LR lg loc ls nL) (hs : mj_st1 lg loc i v = some loc') (hc : v.category = 1) :
    i < nL ∧ ∀ ls' : Array Slot, lv_has ls' nL ((i, v) :: (mj_as 0 loc).filter (fun q => !(q.1 == i) && !(q.1 + 1 == i && q.2.category == 2))) → mj_LR lg loc' ls' nL := by
  obtain ⟨h1, h2, h3⟩ := h
  unfold mj_st1 at hs
  split at hs
  · rename_i hi
    have hl := mj_pre_len lg loc i
    have hp := mj_pre_get lg loc i
    generalize (mj_pre lg loc i) = l1 at hs hl hp
    cases hs
    have key : ∀ (j : Nat) (w : Value), (l1.set i (some v))[j]? = some (some w) → (j = i ∧ w = v) ∨ (j ≠ i ∧ loc[j]? = some (some w) ∧ ¬ (j + 1 = i ∧ lg.contains j = true)) := by
      intro j w hw
      by_cases hj : i = j
      · subst hj
        rw [List.getElem?_set_self (by omega)] at hw
        cases hw
        exact Or.inl ⟨rfl, rfl⟩
      · rw [List.getElem?_set_ne hj] at hw
        exact Or.inr ⟨fun e => hj e.symm, hp j w hw⟩
    refine ⟨by omega, fun ls' hh => ⟨by rw [List.length_set]; omega, ⟨hh.1, hh.2.1, fun q hq => ?_⟩, fun j w hw hc2 => ?_⟩⟩
    · obtain ⟨j, w⟩ := q
      rcases key j w (mj_as_mem0.mp hq) with ⟨e1, e2⟩ | ⟨e1, e2, e3⟩
      · subst e1; subst e2
        exact hh.2.2 (j, w) List.mem_cons_self
      · refine hh.2.2 (j, w) (List.mem_cons_of_mem _ (List.mem_filter.mpr ⟨mj_as_mem0.mpr e2, ?_⟩))
        have hn : ¬ (j + 1 = i ∧ w.category = 2) := fun ⟨a, b⟩ => e3 ⟨a, h3 j w e2 b⟩
        simp only [Bool.and_eq_true, Bool.not_eq_true', beq_eq_false_iff_ne, ne_eq, Bool.and_eq_false_iff]
        refine ⟨e1, ?_⟩
        by_cases a : j + 1 = i
        · exact Or.inr fun b => hn ⟨a, b⟩
        · exact Or.inl a
    · rcases key j w hw with ⟨e1, e2⟩ | ⟨e1, e2, e3⟩
      · subst e2
        omega
      · exact h3 j w e2 hc2
  · cases hs
theorem mj_LR_st2 {lg : List Nat} {loc loc' : mj_L} {ls : Array Slot} {nL i : Nat} {v : Value} (h : mj_LR lg loc ls nL) (hs : mj_st2 lg loc i v = some loc') :
    i + 1 < nL ∧ ∀ ls' : Array Slot, lv_has ls' nL ((i, v) :: (mj_as 0 loc).filter (fun q => !(q.1 == i) && (!(q.1 == i + 1) && !(q.1 + 1 == i && q.2.category == 2)))) → mj_LR lg loc' ls' nL := by
  obtain ⟨h1, h2, h3⟩ := h
  unfold mj_st2 at hs
  split at hs
  · rename_i hi
    have hl := mj_pre_len lg loc i
    have hp := mj_pre_get lg loc i
    generalize (mj_pre lg loc i) = l1 at hs hl hp
    cases hs
    have key : ∀ (j : Nat) (w : Value), ((l1.set i (some v)).set (i + 1) none)[j]? = some (some w) → (j = i ∧ w = v) ∨ (j ≠ i ∧ j ≠ i + 1 ∧ loc[j]? = some (some w) ∧ ¬ (j + 1 = i ∧ lg.contains j = true)) := by
      intro j w hw
      by_cases hk : i + 1 = j
      · subst hk
        rw [List.getElem?_set_self (by rw [List.length_set]; omega)] at hw
        cases hw
      · rw [List.getElem?_set_ne hk] at hw
        by_cases hj : i = j
        · subst hj
          rw [List.getElem?_set_self (by omega)] at hw
          cases hw
          exact Or.inl ⟨rfl, rfl⟩
        · rw [List.getElem?_set_ne hj] at hw
          exact Or.inr ⟨fun e => hj e.symm, fun e => hk e.symm, hp j w hw⟩
    refine ⟨by omega, fun ls' hh => ⟨by rw [List.length_set, List.length_set]; omega, ⟨hh.1, hh.2.1, fun q hq => ?_⟩, fun j w hw hc2 => ?_⟩⟩
    · obtain ⟨j, w⟩ := q
      rcases key j w (mj_as_mem0.mp hq) with ⟨e1, e2⟩ | ⟨e1, e4, e2, e3⟩
      · subst e1; subst e2
        exact hh.2.2 (j, w) List.mem_cons_self
      · refine hh.2.2 (j, w) (List.mem_cons_of_mem _ (List.mem_filter.mpr ⟨mj_as_mem0.mpr e2, ?_⟩))
        have hn : ¬ (j + 1 = i ∧ w.category = 2) := fun ⟨a, b⟩ => e3 ⟨a, h3 j w e2 b⟩
        simp only [Bool.and_eq_true, Bool.not_eq_true', beq_eq_false_iff_ne, ne_eq, Bool.and_eq_false_iff]
        refine ⟨e1, e4, ?_⟩
        by_cases a : j + 1 = i
        · exact Or.inr fun b => hn ⟨a, b⟩
        · exact Or.inl a
    · rcases key j w hw with ⟨e1, e2⟩ | ⟨e1, e4, e2, e3⟩
      · subst e1
        exact hi.2
      · exact h3 j w e2 hc2
  · cases hs
theorem mj_tg_eq {pc : Nat} {off : Int} {t : Nat} (h : mj_tg pc off = some t) : (pc : Int) + off = (t : Int) := by
  unfold mj_tg at h
  split at h
  · cases h
    omega
  · cases h
section MJ1
variable {p : Program} {l : Launch} {e : Env} {R : Room} {s : State} {m : MethodId} {args : Array Value} {below : List Frame} {meth : Method} {c : Code} {H : Heap} {locs : List Loc} {cells slots : Nat} {Q : State → Prop}
variable {cc : ByteArray} {pc pc' len nL : Nat} {ls : Array Slot} {st st' : List Value} {lg : List Nat} {loc loc' : mj_L} {h h' : mj_H}
theorem mj_s_iload_n (hx : p.tables.exec = Jvm.exec) (hb : c.code = cc) {k : Fin 4} (hdg : decode cc pc = .ok (.iload_n k, len)) (ha : mj_ac1 lg pc (.iload_n k) len loc st h = some (.inl (pc', loc', st', h'))) (hl : mj_LR lg loc ls nL)
    (hk : ∀ ls' : Array Slot, mj_LR lg loc' ls' nL → W p l e R s m args below meth c H locs cells slots Q (F0 m pc' ls' st')) : h' = h ∧ W p l e R s m args below meth c H locs cells slots Q (F0 m pc ls st) := by
  simp only [mj_ac1] at ha
  split at ha
  case isFalse => cases ha
  rename_i hlen
  subst hlen
  split at ha
  · rename_i x hld
    simp only [mj_nx, Option.some.injEq, Sum.inl.injEq, Prod.mk.injEq] at ha
    obtain ⟨rfl, rfl, rfl, rfl⟩ := ha
    exact ⟨rfl, lv_iload_n hx hb hdg rfl (mj_LR_ld hl hld) (hk ls hl)⟩
  · cases ha
theorem mj_s_iload (hx : p.tables.exec = Jvm.exec) (hb : c.code = cc) {k : Nat} (hdg : decode cc pc = .ok (.iload k, len)) (ha : mj_ac1 lg pc (.iload k) len loc st h = some (.inl (pc', loc', st', h'))) (hl : mj_LR lg loc ls nL)
    (hk : ∀ ls' : Array Slot, mj_LR lg loc' ls' nL → W p l e R s m args below meth c H locs cells slots Q (F0 m pc' ls' st')) : h' = h ∧ W p l e R s m args below meth c H locs cells slots Q (F0 m pc ls st) := by
  simp only [mj_ac1] at ha
  split at ha
  case isFalse => cases ha
  rename_i hlen
  subst hlen
  split at ha
  · rename_i x hld
    simp only [mj_nx, Option.some.injEq, Sum.inl.injEq, Prod.mk.injEq] at ha
    obtain ⟨rfl, rfl, rfl, rfl⟩ := ha
    exact ⟨rfl, lv_iload hx hb hdg (mj_LR_ld hl hld) (hk ls hl)⟩
  · cases ha
theorem mj_s_lload_n (hx : p.tables.exec = Jvm.exec) (hb : c.code = cc) {k : Fin 4} (hdg : decode cc pc = .ok (.lload_n k, len)) (ha : mj_ac1 lg pc (.lload_n k) len loc st h = some (.inl (pc', loc', st', h'))) (hl : mj_LR lg loc ls nL)
    (hk : ∀ ls' : Array Slot, mj_LR lg loc' ls' nL → W p l e R s m args below meth c H locs cells slots Q (F0 m pc' ls' st')) : h' = h ∧ W p l e R s m args below meth c H locs cells slots Q (F0 m pc ls st) := by
  simp only [mj_ac1] at ha
  split at ha
  case isFalse => cases ha
  rename_i hlen
  subst hlen
  split at ha
  · rename_i x hld
    simp only [mj_nx, Option.some.injEq, Sum.inl.injEq, Prod.mk.injEq] at ha
    obtain ⟨rfl, rfl, rfl, rfl⟩ := ha
    exact ⟨rfl, lv_lload_n hx hb hdg rfl (mj_LR_ld hl hld) (hk ls hl)⟩
  · cases ha
theorem mj_s_lload (hx : p.tables.exec = Jvm.exec) (hb : c.code = cc) {k : Nat} (hdg : decode cc pc = .ok (.lload k, len)) (ha : mj_ac1 lg pc (.lload k) len loc st h = some (.inl (pc', loc', st', h'))) (hl : mj_LR lg loc ls nL)
    (hk : ∀ ls' : Array Slot, mj_LR lg loc' ls' nL → W p l e R s m args below meth c H locs cells slots Q (F0 m pc' ls' st')) : h' = h ∧ W p l e R s m args below meth c H locs cells slots Q (F0 m pc ls st) := by
  simp only [mj_ac1] at ha
  split at ha
  case isFalse => cases ha
  rename_i hlen
  subst hlen
  split at ha
  · rename_i x hld
    simp only [mj_nx, Option.some.injEq, Sum.inl.injEq, Prod.mk.injEq] at ha
    obtain ⟨rfl, rfl, rfl, rfl⟩ := ha
    exact ⟨rfl, lv_lload hx hb hdg (mj_LR_ld hl hld) (hk ls hl)⟩
  · cases ha
theorem mj_s_aload_n (hx : p.tables.exec = Jvm.exec) (hb : c.code = cc) {k : Fin 4} (hdg : decode cc pc = .ok (.aload_n k, len)) (ha : mj_ac1 lg pc (.aload_n k) len loc st h = some (.inl (pc', loc', st', h'))) (hl : mj_LR lg loc ls nL)
    (hk : ∀ ls' : Array Slot, mj_LR lg loc' ls' nL → W p l e R s m args below meth c H locs cells slots Q (F0 m pc' ls' st')) : h' = h ∧ W p l e R s m args below meth c H locs cells slots Q (F0 m pc ls st) := by
  simp only [mj_ac1] at ha
  split at ha
  case isFalse => cases ha
  rename_i hlen
  subst hlen
  split at ha
  · rename_i x hld
    simp only [mj_nx, Option.some.injEq, Sum.inl.injEq, Prod.mk.injEq] at ha
    obtain ⟨rfl, rfl, rfl, rfl⟩ := ha
    exact ⟨rfl, lv_aload_n hx hb hdg rfl (mj_LR_ld hl hld) (hk ls hl)⟩
  · rename_i hld
    simp only [mj_nx, Option.some.injEq, Sum.inl.injEq, Prod.mk.injEq] at ha
    obtain ⟨rfl, rfl, rfl, rfl⟩ := ha
    exact ⟨rfl, lv_aload_nN hx hb hdg rfl (mj_LR_ld hl hld) (hk ls hl)⟩
  · cases ha
theorem mj_s_aload (hx : p.tables.exec = Jvm.exec) (hb : c.code = cc) {k : Nat} (hdg : decode cc pc = .ok (.aload k, len)) (ha : mj_ac1 lg pc (.aload k) len loc st h = some (.inl (pc', loc', st', h'))) (hl : mj_LR lg loc ls nL)
    (hk : ∀ ls' : Array Slot, mj_LR lg loc' ls' nL → W p l e R s m args below meth c H locs cells slots Q (F0 m pc' ls' st')) : h' = h ∧ W p l e R s m args below meth c H locs cells slots Q (F0 m pc ls st) := by
  simp only [mj_ac1] at ha
  split at ha
  case isFalse => cases ha
  rename_i hlen
  subst hlen
  split at ha
  · rename_i x hld
    simp only [mj_nx, Option.some.injEq, Sum.inl.injEq, Prod.mk.injEq] at ha
    obtain ⟨rfl, rfl, rfl, rfl⟩ := ha
    exact ⟨rfl, lv_aload hx hb hdg (mj_LR_ld hl hld) (hk ls hl)⟩
  · rename_i hld
    simp only [mj_nx, Option.some.injEq, Sum.inl.injEq, Prod.mk.injEq] at ha
    obtain ⟨rfl, rfl, rfl, rfl⟩ := ha
    exact ⟨rfl, lv_aloadN hx hb hdg (mj_LR_ld hl hld) (hk ls hl)⟩
  · cases ha
theorem mj_s_istore_n (hx : p.tables.exec = Jvm.exec) (hb : c.code = cc) {k : Fin 4} (hdg : decode cc pc = .ok (.istore_n k, len)) (ha : mj_ac1 lg pc (.istore_n k) len loc st h = some (.inl (pc', loc', st', h'))) (hl : mj_LR lg loc ls nL)
    (hk : ∀ ls' : Array Slot, mj_LR lg loc' ls' nL → W p l e R s m args below meth c H locs cells slots Q (F0 m pc' ls' st')) : h' = h ∧ W p l e R s m args below meth c H locs cells slots Q (F0 m pc ls st) := by
  simp only [mj_ac1] at ha
  split at ha
  case isFalse => cases ha
  rename_i hlen
  subst hlen
  split at ha
  · rename_i x r
    cases hs : mj_st1 lg loc (k : Nat) (.int x) with
    | none => rw [hs] at ha; cases ha
    | some l1 =>
      rw [hs, Option.bind_some] at ha
      simp only [mj_nx, Option.some.injEq, Sum.inl.injEq, Prod.mk.injEq] at ha
      obtain ⟨rfl, rfl, rfl, rfl⟩ := ha
      obtain ⟨hn, hq⟩ := mj_LR_st1 hl hs rfl
      exact ⟨rfl, lv_istore_n hx hb hdg rfl hl.2.1 hn rfl (fun ls1 h1 => hk ls1 (hq ls1 h1))⟩
  · cases ha
theorem mj_s_lstore_n (hx : p.tables.exec = Jvm.exec) (hb : c.code = cc) {k : Fin 4} (hdg : decode cc pc = .ok (.lstore_n k, len)) (ha : mj_ac1 lg pc (.lstore_n k) len loc st h = some (.inl (pc', loc', st', h'))) (hl : mj_LR lg loc ls nL)
    (hk : ∀ ls' : Array Slot, mj_LR lg loc' ls' nL → W p l e R s m args below meth c H locs cells slots Q (F0 m pc' ls' st')) : h' = h ∧ W p l e R s m args below meth c H locs cells slots Q (F0 m pc ls st) := by
  simp only [mj_ac1] at ha
  split at ha
  case isFalse => cases ha
  rename_i hlen
  subst hlen
  split at ha
  · rename_i x r
    cases hs : mj_st2 lg loc (k : Nat) (.long x) with
    | none => rw [hs] at ha; cases ha
    | some l1 =>
      rw [hs, Option.bind_some] at ha
      simp only [mj_nx, Option.some.injEq, Sum.inl.injEq, Prod.mk.injEq] at ha
      obtain ⟨rfl, rfl, rfl, rfl⟩ := ha
      obtain ⟨hn, hq⟩ := mj_LR_st2 hl hs
      exact ⟨rfl, lv_lstore_n hx hb hdg rfl hl.2.1 hn rfl (fun ls1 h1 => hk ls1 (hq ls1 h1))⟩
  · cases ha
theorem mj_s_astore_n (hx : p.tables.exec = Jvm.exec) (hb : c.code = cc) {k : Fin 4} (hdg : decode cc pc = .ok (.astore_n k, len)) (ha : mj_ac1 lg pc (.astore_n k) len loc st h = some (.inl (pc', loc', st', h'))) (hl : mj_LR lg loc ls nL)
    (hk : ∀ ls' : Array Slot, mj_LR lg loc' ls' nL → W p l e R s m args below meth c H locs cells slots Q (F0 m pc' ls' st')) : h' = h ∧ W p l e R s m args below meth c H locs cells slots Q (F0 m pc ls st) := by
  simp only [mj_ac1] at ha
  split at ha
  case isFalse => cases ha
  rename_i hlen
  subst hlen
  split at ha
  · rename_i x r
    cases hs : mj_st1 lg loc (k : Nat) (.ref x) with
    | none => rw [hs] at ha; cases ha
    | some l1 =>
      rw [hs, Option.bind_some] at ha
      simp only [mj_nx, Option.some.injEq, Sum.inl.injEq, Prod.mk.injEq] at ha
      obtain ⟨rfl, rfl, rfl, rfl⟩ := ha
      obtain ⟨hn, hq⟩ := mj_LR_st1 hl hs rfl
      exact ⟨rfl, lv_astore_n hx hb hdg rfl hl.2.1 hn rfl (fun ls1 h1 => hk ls1 (hq ls1 h1))⟩
  · rename_i r
    cases hs : mj_st1 lg loc (k : Nat) .null with
    | none => rw [hs] at ha; cases ha
    | some l1 =>
      rw [hs, Option.bind_some] at ha
      simp only [mj_nx, Option.some.injEq, Sum.inl.injEq, Prod.mk.injEq] at ha
      obtain ⟨rfl, rfl, rfl, rfl⟩ := ha
      obtain ⟨hn, hq⟩ := mj_LR_st1 hl hs rfl
      exact ⟨rfl, lv_astore_nN hx hb hdg rfl hl.2.1 hn rfl (fun ls1 h1 => hk ls1 (hq ls1 h1))⟩
  · cases ha
theorem mj_s_istore (hx : p.tables.exec = Jvm.exec) (hb : c.code = cc) {k : Nat} (hdg : decode cc pc = .ok (.istore k, len)) (ha : mj_ac1 lg pc (.istore k) len loc st h = some (.inl (pc', loc', st', h'))) (hl : mj_LR lg loc ls nL)
    (hk : ∀ ls' : Array Slot, mj_LR lg loc' ls' nL → W p l e R s m args below meth c H locs cells slots Q (F0 m pc' ls' st')) : h' = h ∧ W p l e R s m args below meth c H locs cells slots Q (F0 m pc ls st) := by
  simp only [mj_ac1] at ha
  split at ha
  case isFalse => cases ha
  rename_i hlen
  subst hlen
  split at ha
  · rename_i x r
    cases hs : mj_st1 lg loc k (.int x) with
    | none => rw [hs] at ha; cases ha
    | some l1 =>
      rw [hs, Option.bind_some] at ha
      simp only [mj_nx, Option.some.injEq, Sum.inl.injEq, Prod.mk.injEq] at ha
      obtain ⟨rfl, rfl, rfl, rfl⟩ := ha
      obtain ⟨hn, hq⟩ := mj_LR_st1 hl hs rfl
      exact ⟨rfl, lv_istore hx hb hdg hl.2.1 hn rfl (fun ls1 h1 => hk ls1 (hq ls1 h1))⟩
  · cases ha
theorem mj_s_lstore (hx : p.tables.exec = Jvm.exec) (hb : c.code = cc) {k : Nat} (hdg : decode cc pc = .ok (.lstore k, len)) (ha : mj_ac1 lg pc (.lstore k) len loc st h = some (.inl (pc', loc', st', h'))) (hl : mj_LR lg loc ls nL)
    (hk : ∀ ls' : Array Slot, mj_LR lg loc' ls' nL → W p l e R s m args below meth c H locs cells slots Q (F0 m pc' ls' st')) : h' = h ∧ W p l e R s m args below meth c H locs cells slots Q (F0 m pc ls st) := by
  simp only [mj_ac1] at ha
  split at ha
  case isFalse => cases ha
  rename_i hlen
  subst hlen
  split at ha
  · rename_i x r
    cases hs : mj_st2 lg loc k (.long x) with
    | none => rw [hs] at ha; cases ha
    | some l1 =>
      rw [hs, Option.bind_some] at ha
      simp only [mj_nx, Option.some.injEq, Sum.inl.injEq, Prod.mk.injEq] at ha
      obtain ⟨rfl, rfl, rfl, rfl⟩ := ha
      obtain ⟨hn, hq⟩ := mj_LR_st2 hl hs
      exact ⟨rfl, lv_lstore hx hb hdg hl.2.1 hn rfl (fun ls1 h1 => hk ls1 (hq ls1 h1))⟩
  · cases ha
theorem mj_s_astore (hx : p.tables.exec = Jvm.exec) (hb : c.code = cc) {k : Nat} (hdg : decode cc pc = .ok (.astore k, len)) (ha : mj_ac1 lg pc (.astore k) len loc st h = some (.inl (pc', loc', st', h'))) (hl : mj_LR lg loc ls nL)
    (hk : ∀ ls' : Array Slot, mj_LR lg loc' ls' nL → W p l e R s m args below meth c H locs cells slots Q (F0 m pc' ls' st')) : h' = h ∧ W p l e R s m args below meth c H locs cells slots Q (F0 m pc ls st) := by
  simp only [mj_ac1] at ha
  split at ha
  case isFalse => cases ha
  rename_i hlen
  subst hlen
  split at ha
  · rename_i x r
    cases hs : mj_st1 lg loc k (.ref x) with
    | none => rw [hs] at ha; cases ha
    | some l1 =>
      rw [hs, Option.bind_some] at ha
      simp only [mj_nx, Option.some.injEq, Sum.inl.injEq, Prod.mk.injEq] at ha
      obtain ⟨rfl, rfl, rfl, rfl⟩ := ha
      obtain ⟨hn, hq⟩ := mj_LR_st1 hl hs rfl
      exact ⟨rfl, lv_astore hx hb hdg hl.2.1 hn rfl (fun ls1 h1 => hk ls1 (hq ls1 h1))⟩
  · rename_i r
    cases hs : mj_st1 lg loc k .null with
    | none => rw [hs] at ha; cases ha
    | some l1 =>
      rw [hs, Option.bind_some] at ha
      simp only [mj_nx, Option.some.injEq, Sum.inl.injEq, Prod.mk.injEq] at ha
      obtain ⟨rfl, rfl, rfl, rfl⟩ := ha
      obtain ⟨hn, hq⟩ := mj_LR_st1 hl hs rfl
      exact ⟨rfl, lv_astoreN hx hb hdg hl.2.1 hn rfl (fun ls1 h1 => hk ls1 (hq ls1 h1))⟩
  · cases ha
theorem mj_s_iinc (hx : p.tables.exec = Jvm.exec) (hb : c.code = cc) {k : Nat} {n : Int} (hdg : decode cc pc = .ok (.iinc k n, len)) (ha : mj_ac1 lg pc (.iinc k n) len loc st h = some (.inl (pc', loc', st', h'))) (hl : mj_LR lg loc ls nL)
    (hk : ∀ ls' : Array Slot, mj_LR lg loc' ls' nL → W p l e R s m args below meth c H locs cells slots Q (F0 m pc' ls' st')) : h' = h ∧ W p l e R s m args below meth c H locs cells slots Q (F0 m pc ls st) := by
  simp only [mj_ac1] at ha
  split at ha
  case isFalse => cases ha
  rename_i hlen
  subst hlen
  split at ha
  · rename_i x hld
    obtain ⟨kp, hkp⟩ := mj_LR_as hl hld
    cases hs : mj_st1 lg loc k (.int (x + Int32.ofInt n)) with
    | none => rw [hs] at ha; cases ha
    | some l1 =>
      rw [hs, Option.bind_some] at ha
      simp only [mj_nx, Option.some.injEq, Sum.inl.injEq, Prod.mk.injEq] at ha
      obtain ⟨rfl, rfl, rfl, rfl⟩ := ha
      obtain ⟨hn, hq⟩ := mj_LR_st1 hl hs rfl
      exact ⟨rfl, lv_iinc hx hb hdg hl.2.1 hkp rfl hn rfl (fun ls1 h1 => hk ls1 (hq ls1 h1))⟩
  · cases ha
theorem mj_s_iconst (hx : p.tables.exec = Jvm.exec) (hb : c.code = cc) {n : Int} (hdg : decode cc pc = .ok (.iconst n, len)) (ha : mj_ac1 lg pc (.iconst n) len loc st h = some (.inl (pc', loc', st', h'))) (hl : mj_LR lg loc ls nL)
    (hk : ∀ ls' : Array Slot, mj_LR lg loc' ls' nL → W p l e R s m args below meth c H locs cells slots Q (F0 m pc' ls' st')) : h' = h ∧ W p l e R s m args below meth c H locs cells slots Q (F0 m pc ls st) := by
  simp only [mj_ac1] at ha
  split at ha
  case isFalse => cases ha
  rename_i hlen
  subst hlen
  simp only [mj_nx, Option.some.injEq, Sum.inl.injEq, Prod.mk.injEq] at ha
  obtain ⟨rfl, rfl, rfl, rfl⟩ := ha
  exact ⟨rfl, lv_iconst hx hb hdg rfl (hk ls hl)⟩
theorem mj_s_bipush (hx : p.tables.exec = Jvm.exec) (hb : c.code = cc) {n : Int} (hdg : decode cc pc = .ok (.bipush n, len)) (ha : mj_ac1 lg pc (.bipush n) len loc st h = some (.inl (pc', loc', st', h'))) (hl : mj_LR lg loc ls nL)
    (hk : ∀ ls' : Array Slot, mj_LR lg loc' ls' nL → W p l e R s m args below meth c H locs cells slots Q (F0 m pc' ls' st')) : h' = h ∧ W p l e R s m args below meth c H locs cells slots Q (F0 m pc ls st) := by
  simp only [mj_ac1] at ha
  split at ha
  case isFalse => cases ha
  rename_i hlen
  subst hlen
  simp only [mj_nx, Option.some.injEq, Sum.inl.injEq, Prod.mk.injEq] at ha
  obtain ⟨rfl, rfl, rfl, rfl⟩ := ha
  exact ⟨rfl, lv_bipush hx hb hdg rfl (hk ls hl)⟩
theorem mj_s_sipush (hx : p.tables.exec = Jvm.exec) (hb : c.code = cc) {n : Int} (hdg : decode cc pc = .ok (.sipush n, len)) (ha : mj_ac1 lg pc (.sipush n) len loc st h = some (.inl (pc', loc', st', h'))) (hl : mj_LR lg loc ls nL)
    (hk : ∀ ls' : Array Slot, mj_LR lg loc' ls' nL → W p l e R s m args below meth c H locs cells slots Q (F0 m pc' ls' st')) : h' = h ∧ W p l e R s m args below meth c H locs cells slots Q (F0 m pc ls st) := by
  simp only [mj_ac1] at ha
  split at ha
  case isFalse => cases ha
  rename_i hlen
  subst hlen
  simp only [mj_nx, Option.some.injEq, Sum.inl.injEq, Prod.mk.injEq] at ha
  obtain ⟨rfl, rfl, rfl, rfl⟩ := ha
  exact ⟨rfl, lv_sipush hx hb hdg rfl (hk ls hl)⟩
theorem mj_s_lconst (hx : p.tables.exec = Jvm.exec) (hb : c.code = cc) {n : Fin 2} (hdg : decode cc pc = .ok (.lconst n, len)) (ha : mj_ac1 lg pc (.lconst n) len loc st h = some (.inl (pc', loc', st', h'))) (hl : mj_LR lg loc ls nL)
    (hk : ∀ ls' : Array Slot, mj_LR lg loc' ls' nL → W p l e R s m args below meth c H locs cells slots Q (F0 m pc' ls' st')) : h' = h ∧ W p l e R s m args below meth c H locs cells slots Q (F0 m pc ls st) := by
  simp only [mj_ac1] at ha
  split at ha
  case isFalse => cases ha
  rename_i hlen
  subst hlen
  simp only [mj_nx, Option.some.injEq, Sum.inl.injEq, Prod.mk.injEq] at ha
  obtain ⟨rfl, rfl, rfl, rfl⟩ := ha
  exact ⟨rfl, lv_lconst hx hb hdg rfl (hk ls hl)⟩
theorem mj_s_aconst_null (hx : p.tables.exec = Jvm.exec) (hb : c.code = cc) (hdg : decode cc pc = .ok (.aconst_null, len)) (ha : mj_ac1 lg pc (.aconst_null) len loc st h = some (.inl (pc', loc', st', h'))) (hl : mj_LR lg loc ls nL)
    (hk : ∀ ls' : Array Slot, mj_LR lg loc' ls' nL → W p l e R s m args below meth c H locs cells slots Q (F0 m pc' ls' st')) : h' = h ∧ W p l e R s m args below meth c H locs cells slots Q (F0 m pc ls st) := by
  simp only [mj_ac1] at ha
  split at ha
  case isFalse => cases ha
  rename_i hlen
  subst hlen
  simp only [mj_nx, Option.some.injEq, Sum.inl.injEq, Prod.mk.injEq] at ha
  obtain ⟨rfl, rfl, rfl, rfl⟩ := ha
  exact ⟨rfl, lv_null hx hb hdg (hk ls hl)⟩
theorem mj_s_iadd (hx : p.tables.exec = Jvm.exec) (hb : c.code = cc) (hdg : decode cc pc = .ok (.iadd, len)) (ha : mj_ac1 lg pc (.iadd) len loc st h = some (.inl (pc', loc', st', h'))) (hl : mj_LR lg loc ls nL)
    (hk : ∀ ls' : Array Slot, mj_LR lg loc' ls' nL → W p l e R s m args below meth c H locs cells slots Q (F0 m pc' ls' st')) : h' = h ∧ W p l e R s m args below meth c H locs cells slots Q (F0 m pc ls st) := by
  simp only [mj_ac1] at ha
  split at ha
  case isFalse => cases ha
  rename_i hlen
  subst hlen
  split at ha
  · rename_i y x r
    simp only [mj_nx, Option.some.injEq, Sum.inl.injEq, Prod.mk.injEq] at ha
    obtain ⟨rfl, rfl, rfl, rfl⟩ := ha
    exact ⟨rfl, lv_iadd hx hb hdg (hk ls hl)⟩
  · cases ha
theorem mj_s_isub (hx : p.tables.exec = Jvm.exec) (hb : c.code = cc) (hdg : decode cc pc = .ok (.isub, len)) (ha : mj_ac1 lg pc (.isub) len loc st h = some (.inl (pc', loc', st', h'))) (hl : mj_LR lg loc ls nL)
    (hk : ∀ ls' : Array Slot, mj_LR lg loc' ls' nL → W p l e R s m args below meth c H locs cells slots Q (F0 m pc' ls' st')) : h' = h ∧ W p l e R s m args below meth c H locs cells slots Q (F0 m pc ls st) := by
  simp only [mj_ac1] at ha
  split at ha
  case isFalse => cases ha
  rename_i hlen
  subst hlen
  split at ha
  · rename_i y x r
    simp only [mj_nx, Option.some.injEq, Sum.inl.injEq, Prod.mk.injEq] at ha
    obtain ⟨rfl, rfl, rfl, rfl⟩ := ha
    exact ⟨rfl, lv_isub hx hb hdg (hk ls hl)⟩
  · cases ha
theorem mj_s_imul (hx : p.tables.exec = Jvm.exec) (hb : c.code = cc) (hdg : decode cc pc = .ok (.imul, len)) (ha : mj_ac1 lg pc (.imul) len loc st h = some (.inl (pc', loc', st', h'))) (hl : mj_LR lg loc ls nL)
    (hk : ∀ ls' : Array Slot, mj_LR lg loc' ls' nL → W p l e R s m args below meth c H locs cells slots Q (F0 m pc' ls' st')) : h' = h ∧ W p l e R s m args below meth c H locs cells slots Q (F0 m pc ls st) := by
  simp only [mj_ac1] at ha
  split at ha
  case isFalse => cases ha
  rename_i hlen
  subst hlen
  split at ha
  · rename_i y x r
    simp only [mj_nx, Option.some.injEq, Sum.inl.injEq, Prod.mk.injEq] at ha
    obtain ⟨rfl, rfl, rfl, rfl⟩ := ha
    exact ⟨rfl, lv_imul hx hb hdg (hk ls hl)⟩
  · cases ha
theorem mj_s_iand (hx : p.tables.exec = Jvm.exec) (hb : c.code = cc) (hdg : decode cc pc = .ok (.iand, len)) (ha : mj_ac1 lg pc (.iand) len loc st h = some (.inl (pc', loc', st', h'))) (hl : mj_LR lg loc ls nL)
    (hk : ∀ ls' : Array Slot, mj_LR lg loc' ls' nL → W p l e R s m args below meth c H locs cells slots Q (F0 m pc' ls' st')) : h' = h ∧ W p l e R s m args below meth c H locs cells slots Q (F0 m pc ls st) := by
  simp only [mj_ac1] at ha
  split at ha
  case isFalse => cases ha
  rename_i hlen
  subst hlen
  split at ha
  · rename_i y x r
    simp only [mj_nx, Option.some.injEq, Sum.inl.injEq, Prod.mk.injEq] at ha
    obtain ⟨rfl, rfl, rfl, rfl⟩ := ha
    exact ⟨rfl, lv_iand hx hb hdg (hk ls hl)⟩
  · cases ha
theorem mj_s_ior (hx : p.tables.exec = Jvm.exec) (hb : c.code = cc) (hdg : decode cc pc = .ok (.ior, len)) (ha : mj_ac1 lg pc (.ior) len loc st h = some (.inl (pc', loc', st', h'))) (hl : mj_LR lg loc ls nL)
    (hk : ∀ ls' : Array Slot, mj_LR lg loc' ls' nL → W p l e R s m args below meth c H locs cells slots Q (F0 m pc' ls' st')) : h' = h ∧ W p l e R s m args below meth c H locs cells slots Q (F0 m pc ls st) := by
  simp only [mj_ac1] at ha
  split at ha
  case isFalse => cases ha
  rename_i hlen
  subst hlen
  split at ha
  · rename_i y x r
    simp only [mj_nx, Option.some.injEq, Sum.inl.injEq, Prod.mk.injEq] at ha
    obtain ⟨rfl, rfl, rfl, rfl⟩ := ha
    exact ⟨rfl, lv_ior hx hb hdg (hk ls hl)⟩
  · cases ha
theorem mj_s_ishl (hx : p.tables.exec = Jvm.exec) (hb : c.code = cc) (hdg : decode cc pc = .ok (.ishl, len)) (ha : mj_ac1 lg pc (.ishl) len loc st h = some (.inl (pc', loc', st', h'))) (hl : mj_LR lg loc ls nL)
    (hk : ∀ ls' : Array Slot, mj_LR lg loc' ls' nL → W p l e R s m args below meth c H locs cells slots Q (F0 m pc' ls' st')) : h' = h ∧ W p l e R s m args below meth c H locs cells slots Q (F0 m pc ls st) := by
  simp only [mj_ac1] at ha
  split at ha
  case isFalse => cases ha
  rename_i hlen
  subst hlen
  split at ha
  · rename_i y x r
    simp only [mj_nx, Option.some.injEq, Sum.inl.injEq, Prod.mk.injEq] at ha
    obtain ⟨rfl, rfl, rfl, rfl⟩ := ha
    exact ⟨rfl, lv_ishl hx hb hdg (hk ls hl)⟩
  · cases ha
theorem mj_s_ishr (hx : p.tables.exec = Jvm.exec) (hb : c.code = cc) (hdg : decode cc pc = .ok (.ishr, len)) (ha : mj_ac1 lg pc (.ishr) len loc st h = some (.inl (pc', loc', st', h'))) (hl : mj_LR lg loc ls nL)
    (hk : ∀ ls' : Array Slot, mj_LR lg loc' ls' nL → W p l e R s m args below meth c H locs cells slots Q (F0 m pc' ls' st')) : h' = h ∧ W p l e R s m args below meth c H locs cells slots Q (F0 m pc ls st) := by
  simp only [mj_ac1] at ha
  split at ha
  case isFalse => cases ha
  rename_i hlen
  subst hlen
  split at ha
  · rename_i y x r
    simp only [mj_nx, Option.some.injEq, Sum.inl.injEq, Prod.mk.injEq] at ha
    obtain ⟨rfl, rfl, rfl, rfl⟩ := ha
    exact ⟨rfl, lv_ishr hx hb hdg (hk ls hl)⟩
  · cases ha
theorem mj_s_ladd (hx : p.tables.exec = Jvm.exec) (hb : c.code = cc) (hdg : decode cc pc = .ok (.ladd, len)) (ha : mj_ac1 lg pc (.ladd) len loc st h = some (.inl (pc', loc', st', h'))) (hl : mj_LR lg loc ls nL)
    (hk : ∀ ls' : Array Slot, mj_LR lg loc' ls' nL → W p l e R s m args below meth c H locs cells slots Q (F0 m pc' ls' st')) : h' = h ∧ W p l e R s m args below meth c H locs cells slots Q (F0 m pc ls st) := by
  simp only [mj_ac1] at ha
  split at ha
  case isFalse => cases ha
  rename_i hlen
  subst hlen
  split at ha
  · rename_i y x r
    simp only [mj_nx, Option.some.injEq, Sum.inl.injEq, Prod.mk.injEq] at ha
    obtain ⟨rfl, rfl, rfl, rfl⟩ := ha
    exact ⟨rfl, lv_ladd hx hb hdg (hk ls hl)⟩
  · cases ha
theorem mj_s_lsub (hx : p.tables.exec = Jvm.exec) (hb : c.code = cc) (hdg : decode cc pc = .ok (.lsub, len)) (ha : mj_ac1 lg pc (.lsub) len loc st h = some (.inl (pc', loc', st', h'))) (hl : mj_LR lg loc ls nL)
    (hk : ∀ ls' : Array Slot, mj_LR lg loc' ls' nL → W p l e R s m args below meth c H locs cells slots Q (F0 m pc' ls' st')) : h' = h ∧ W p l e R s m args below meth c H locs cells slots Q (F0 m pc ls st) := by
  simp only [mj_ac1] at ha
  split at ha
  case isFalse => cases ha
  rename_i hlen
  subst hlen
  split at ha
  · rename_i y x r
    simp only [mj_nx, Option.some.injEq, Sum.inl.injEq, Prod.mk.injEq] at ha
    obtain ⟨rfl, rfl, rfl, rfl⟩ := ha
    exact ⟨rfl, lv_lsub hx hb hdg (hk ls hl)⟩
  · cases ha
theorem mj_s_lmul (hx : p.tables.exec = Jvm.exec) (hb : c.code = cc) (hdg : decode cc pc = .ok (.lmul, len)) (ha : mj_ac1 lg pc (.lmul) len loc st h = some (.inl (pc', loc', st', h'))) (hl : mj_LR lg loc ls nL)
    (hk : ∀ ls' : Array Slot, mj_LR lg loc' ls' nL → W p l e R s m args below meth c H locs cells slots Q (F0 m pc' ls' st')) : h' = h ∧ W p l e R s m args below meth c H locs cells slots Q (F0 m pc ls st) := by
  simp only [mj_ac1] at ha
  split at ha
  case isFalse => cases ha
  rename_i hlen
  subst hlen
  split at ha
  · rename_i y x r
    simp only [mj_nx, Option.some.injEq, Sum.inl.injEq, Prod.mk.injEq] at ha
    obtain ⟨rfl, rfl, rfl, rfl⟩ := ha
    exact ⟨rfl, lv_lmul hx hb hdg (hk ls hl)⟩
  · cases ha
theorem mj_s_iushr (hx : p.tables.exec = Jvm.exec) (hb : c.code = cc) (hdg : decode cc pc = .ok (.iushr, len)) (ha : mj_ac1 lg pc (.iushr) len loc st h = some (.inl (pc', loc', st', h'))) (hl : mj_LR lg loc ls nL)
    (hk : ∀ ls' : Array Slot, mj_LR lg loc' ls' nL → W p l e R s m args below meth c H locs cells slots Q (F0 m pc' ls' st')) : h' = h ∧ W p l e R s m args below meth c H locs cells slots Q (F0 m pc ls st) := by
  simp only [mj_ac1] at ha
  split at ha
  case isFalse => cases ha
  rename_i hlen
  subst hlen
  split at ha
  · rename_i y x r
    simp only [mj_nx, Option.some.injEq, Sum.inl.injEq, Prod.mk.injEq] at ha
    obtain ⟨rfl, rfl, rfl, rfl⟩ := ha
    exact ⟨rfl, lv_iushr hx hb hdg rfl (hk ls hl)⟩
  · cases ha
theorem mj_s_lcmp (hx : p.tables.exec = Jvm.exec) (hb : c.code = cc) (hdg : decode cc pc = .ok (.lcmp, len)) (ha : mj_ac1 lg pc (.lcmp) len loc st h = some (.inl (pc', loc', st', h'))) (hl : mj_LR lg loc ls nL)
    (hk : ∀ ls' : Array Slot, mj_LR lg loc' ls' nL → W p l e R s m args below meth c H locs cells slots Q (F0 m pc' ls' st')) : h' = h ∧ W p l e R s m args below meth c H locs cells slots Q (F0 m pc ls st) := by
  simp only [mj_ac1] at ha
  split at ha
  case isFalse => cases ha
  rename_i hlen
  subst hlen
  split at ha
  · rename_i y x r
    simp only [mj_nx, Option.some.injEq, Sum.inl.injEq, Prod.mk.injEq] at ha
    obtain ⟨rfl, rfl, rfl, rfl⟩ := ha
    exact ⟨rfl, W.lcmp hx hb hdg (hk ls hl)⟩
  · cases ha
theorem mj_s_idiv (hx : p.tables.exec = Jvm.exec) (hb : c.code = cc) (hdg : decode cc pc = .ok (.idiv, len)) (ha : mj_ac1 lg pc (.idiv) len loc st h = some (.inl (pc', loc', st', h'))) (hl : mj_LR lg loc ls nL)
    (hk : ∀ ls' : Array Slot, mj_LR lg loc' ls' nL → W p l e R s m args below meth c H locs cells slots Q (F0 m pc' ls' st')) : h' = h ∧ W p l e R s m args below meth c H locs cells slots Q (F0 m pc ls st) := by
  simp only [mj_ac1] at ha
  split at ha
  case isFalse => cases ha
  rename_i hlen
  subst hlen
  split at ha
  · rename_i y x r
    split at ha
    · cases ha
    · rename_i hy
      simp only [mj_nx, Option.some.injEq, Sum.inl.injEq, Prod.mk.injEq] at ha
      obtain ⟨rfl, rfl, rfl, rfl⟩ := ha
      exact ⟨rfl, lv_idiv hx hb hdg hy (hk ls hl)⟩
  · cases ha
theorem mj_s_irem (hx : p.tables.exec = Jvm.exec) (hb : c.code = cc) (hdg : decode cc pc = .ok (.irem, len)) (ha : mj_ac1 lg pc (.irem) len loc st h = some (.inl (pc', loc', st', h'))) (hl : mj_LR lg loc ls nL)
    (hk : ∀ ls' : Array Slot, mj_LR lg loc' ls' nL → W p l e R s m args below meth c H locs cells slots Q (F0 m pc' ls' st')) : h' = h ∧ W p l e R s m args below meth c H locs cells slots Q (F0 m pc ls st) := by
  simp only [mj_ac1] at ha
  split at ha
  case isFalse => cases ha
  rename_i hlen
  subst hlen
  split at ha
  · rename_i y x r
    split at ha
    · cases ha
    · rename_i hy
      simp only [mj_nx, Option.some.injEq, Sum.inl.injEq, Prod.mk.injEq] at ha
      obtain ⟨rfl, rfl, rfl, rfl⟩ := ha
      exact ⟨rfl, lv_irem hx hb hdg hy (hk ls hl)⟩
  · cases ha
theorem mj_s_ldiv (hx : p.tables.exec = Jvm.exec) (hb : c.code = cc) (hdg : decode cc pc = .ok (.ldiv, len)) (ha : mj_ac1 lg pc (.ldiv) len loc st h = some (.inl (pc', loc', st', h'))) (hl : mj_LR lg loc ls nL)
    (hk : ∀ ls' : Array Slot, mj_LR lg loc' ls' nL → W p l e R s m args below meth c H locs cells slots Q (F0 m pc' ls' st')) : h' = h ∧ W p l e R s m args below meth c H locs cells slots Q (F0 m pc ls st) := by
  simp only [mj_ac1] at ha
  split at ha
  case isFalse => cases ha
  rename_i hlen
  subst hlen
  split at ha
  · rename_i y x r
    split at ha
    · cases ha
    · rename_i hy
      simp only [mj_nx, Option.some.injEq, Sum.inl.injEq, Prod.mk.injEq] at ha
      obtain ⟨rfl, rfl, rfl, rfl⟩ := ha
      exact ⟨rfl, lv_ldiv hx hb hdg hy (hk ls hl)⟩
  · cases ha
theorem mj_s_i2l (hx : p.tables.exec = Jvm.exec) (hb : c.code = cc) (hdg : decode cc pc = .ok (.i2l, len)) (ha : mj_ac1 lg pc (.i2l) len loc st h = some (.inl (pc', loc', st', h'))) (hl : mj_LR lg loc ls nL)
    (hk : ∀ ls' : Array Slot, mj_LR lg loc' ls' nL → W p l e R s m args below meth c H locs cells slots Q (F0 m pc' ls' st')) : h' = h ∧ W p l e R s m args below meth c H locs cells slots Q (F0 m pc ls st) := by
  simp only [mj_ac1] at ha
  split at ha
  case isFalse => cases ha
  rename_i hlen
  subst hlen
  split at ha
  · rename_i x r
    simp only [mj_nx, Option.some.injEq, Sum.inl.injEq, Prod.mk.injEq] at ha
    obtain ⟨rfl, rfl, rfl, rfl⟩ := ha
    exact ⟨rfl, lv_i2l hx hb hdg rfl (hk ls hl)⟩
  · cases ha
theorem mj_s_l2i (hx : p.tables.exec = Jvm.exec) (hb : c.code = cc) (hdg : decode cc pc = .ok (.l2i, len)) (ha : mj_ac1 lg pc (.l2i) len loc st h = some (.inl (pc', loc', st', h'))) (hl : mj_LR lg loc ls nL)
    (hk : ∀ ls' : Array Slot, mj_LR lg loc' ls' nL → W p l e R s m args below meth c H locs cells slots Q (F0 m pc' ls' st')) : h' = h ∧ W p l e R s m args below meth c H locs cells slots Q (F0 m pc ls st) := by
  simp only [mj_ac1] at ha
  split at ha
  case isFalse => cases ha
  rename_i hlen
  subst hlen
  split at ha
  · rename_i x r
    simp only [mj_nx, Option.some.injEq, Sum.inl.injEq, Prod.mk.injEq] at ha
    obtain ⟨rfl, rfl, rfl, rfl⟩ := ha
    exact ⟨rfl, lv_l2i hx hb hdg rfl (hk ls hl)⟩
  · cases ha
theorem mj_s_i2b (hx : p.tables.exec = Jvm.exec) (hb : c.code = cc) (hdg : decode cc pc = .ok (.i2b, len)) (ha : mj_ac1 lg pc (.i2b) len loc st h = some (.inl (pc', loc', st', h'))) (hl : mj_LR lg loc ls nL)
    (hk : ∀ ls' : Array Slot, mj_LR lg loc' ls' nL → W p l e R s m args below meth c H locs cells slots Q (F0 m pc' ls' st')) : h' = h ∧ W p l e R s m args below meth c H locs cells slots Q (F0 m pc ls st) := by
  simp only [mj_ac1] at ha
  split at ha
  case isFalse => cases ha
  rename_i hlen
  subst hlen
  split at ha
  · rename_i x r
    simp only [mj_nx, Option.some.injEq, Sum.inl.injEq, Prod.mk.injEq] at ha
    obtain ⟨rfl, rfl, rfl, rfl⟩ := ha
    exact ⟨rfl, lv_i2b hx hb hdg rfl (hk ls hl)⟩
  · cases ha
theorem mj_s_dup (hx : p.tables.exec = Jvm.exec) (hb : c.code = cc) (hdg : decode cc pc = .ok (.dup, len)) (ha : mj_ac1 lg pc (.dup) len loc st h = some (.inl (pc', loc', st', h'))) (hl : mj_LR lg loc ls nL)
    (hk : ∀ ls' : Array Slot, mj_LR lg loc' ls' nL → W p l e R s m args below meth c H locs cells slots Q (F0 m pc' ls' st')) : h' = h ∧ W p l e R s m args below meth c H locs cells slots Q (F0 m pc ls st) := by
  simp only [mj_ac1] at ha
  split at ha
  case isFalse => cases ha
  rename_i hlen
  subst hlen
  split at ha
  · rename_i x r
    simp only [mj_nx, Option.some.injEq, Sum.inl.injEq, Prod.mk.injEq] at ha
    obtain ⟨rfl, rfl, rfl, rfl⟩ := ha
    exact ⟨rfl, lv_dup hx hb hdg rfl (hk ls hl)⟩
  · rename_i x r
    simp only [mj_nx, Option.some.injEq, Sum.inl.injEq, Prod.mk.injEq] at ha
    obtain ⟨rfl, rfl, rfl, rfl⟩ := ha
    exact ⟨rfl, lv_dup hx hb hdg rfl (hk ls hl)⟩
  · cases ha
theorem mj_s_dup2 (hx : p.tables.exec = Jvm.exec) (hb : c.code = cc) (hdg : decode cc pc = .ok (.dup2, len)) (ha : mj_ac1 lg pc (.dup2) len loc st h = some (.inl (pc', loc', st', h'))) (hl : mj_LR lg loc ls nL)
    (hk : ∀ ls' : Array Slot, mj_LR lg loc' ls' nL → W p l e R s m args below meth c H locs cells slots Q (F0 m pc' ls' st')) : h' = h ∧ W p l e R s m args below meth c H locs cells slots Q (F0 m pc ls st) := by
  simp only [mj_ac1] at ha
  split at ha
  case isFalse => cases ha
  rename_i hlen
  subst hlen
  split at ha
  · rename_i x y r
    simp only [mj_nx, Option.some.injEq, Sum.inl.injEq, Prod.mk.injEq] at ha
    obtain ⟨rfl, rfl, rfl, rfl⟩ := ha
    exact ⟨rfl, lv_dup2_11 hx hb hdg rfl rfl (hk ls hl)⟩
  · cases ha
theorem mj_s_if_eq (hx : p.tables.exec = Jvm.exec) (hb : c.code = cc) {off : Int} (hdg : decode cc pc = .ok (.ifCond .eq off, len)) (ha : mj_ac1 lg pc (.ifCond .eq off) len loc st h = some (.inl (pc', loc', st', h'))) (hl : mj_LR lg loc ls nL)
    (hk : ∀ ls' : Array Slot, mj_LR lg loc' ls' nL → W p l e R s m args below meth c H locs cells slots Q (F0 m pc' ls' st')) : h' = h ∧ W p l e R s m args below meth c H locs cells slots Q (F0 m pc ls st) := by
  simp only [mj_ac1] at ha
  split at ha
  case isFalse => cases ha
  rename_i hlen
  subst hlen
  split at ha
  · rename_i x r
    cases ht : mj_tg pc off with
    | none => rw [ht] at ha; cases ha
    | some t =>
      rw [ht, Option.bind_some] at ha
      simp only [mj_nx, Option.some.injEq, Sum.inl.injEq, Prod.mk.injEq] at ha
      obtain ⟨rfl, rfl, rfl, rfl⟩ := ha
      have hk := hk ls hl
      exact ⟨rfl, lv_if_eq hx hb hdg (mj_tg_eq ht) (fun q => by rwa [if_pos q] at hk) (fun q => by rwa [if_neg q] at hk)⟩
  · cases ha
theorem mj_s_icmp_eq (hx : p.tables.exec = Jvm.exec) (hb : c.code = cc) {off : Int} (hdg : decode cc pc = .ok (.if_icmp .eq off, len)) (ha : mj_ac1 lg pc (.if_icmp .eq off) len loc st h = some (.inl (pc', loc', st', h'))) (hl : mj_LR lg loc ls nL)
    (hk : ∀ ls' : Array Slot, mj_LR lg loc' ls' nL → W p l e R s m args below meth c H locs cells slots Q (F0 m pc' ls' st')) : h' = h ∧ W p l e R s m args below meth c H locs cells slots Q (F0 m pc ls st) := by
  simp only [mj_ac1] at ha
  split at ha
  case isFalse => cases ha
  rename_i hlen
  subst hlen
  split at ha
  · rename_i y x r
    cases ht : mj_tg pc off with
    | none => rw [ht] at ha; cases ha
    | some t =>
      rw [ht, Option.bind_some] at ha
      simp only [mj_nx, Option.some.injEq, Sum.inl.injEq, Prod.mk.injEq] at ha
      obtain ⟨rfl, rfl, rfl, rfl⟩ := ha
      have hk := hk ls hl
      exact ⟨rfl, lv_icmp_eq hx hb hdg (mj_tg_eq ht) (fun q => by rwa [if_pos q] at hk) (fun q => by rwa [if_neg q] at hk)⟩
  · cases ha
theorem mj_s_if_ne (hx : p.tables.exec = Jvm.exec) (hb : c.code = cc) {off : Int} (hdg : decode cc pc = .ok (.ifCond .ne off, len)) (ha : mj_ac1 lg pc (.ifCond .ne off) len loc st h = some (.inl (pc', loc', st', h'))) (hl : mj_LR lg loc ls nL)
    (hk : ∀ ls' : Array Slot, mj_LR lg loc' ls' nL → W p l e R s m args below meth c H locs cells slots Q (F0 m pc' ls' st')) : h' = h ∧ W p l e R s m args below meth c H locs cells slots Q (F0 m pc ls st) := by
  simp only [mj_ac1] at ha
  split at ha
  case isFalse => cases ha
  rename_i hlen
  subst hlen
  split at ha
  · rename_i x r
    cases ht : mj_tg pc off with
    | none => rw [ht] at ha; cases ha
    | some t =>
      rw [ht, Option.bind_some] at ha
      simp only [mj_nx, Option.some.injEq, Sum.inl.injEq, Prod.mk.injEq] at ha
      obtain ⟨rfl, rfl, rfl, rfl⟩ := ha
      have hk := hk ls hl
      exact ⟨rfl, lv_if_ne hx hb hdg (mj_tg_eq ht) (fun q => by rwa [if_pos q] at hk) (fun q => by rwa [if_neg (fun z => z q)] at hk)⟩
  · cases ha
theorem mj_s_icmp_ne (hx : p.tables.exec = Jvm.exec) (hb : c.code = cc) {off : Int} (hdg : decode cc pc = .ok (.if_icmp .ne off, len)) (ha : mj_ac1 lg pc (.if_icmp .ne off) len loc st h = some (.inl (pc', loc', st', h'))) (hl : mj_LR lg loc ls nL)
    (hk : ∀ ls' : Array Slot, mj_LR lg loc' ls' nL → W p l e R s m args below meth c H locs cells slots Q (F0 m pc' ls' st')) : h' = h ∧ W p l e R s m args below meth c H locs cells slots Q (F0 m pc ls st) := by
  simp only [mj_ac1] at ha
  split at ha
  case isFalse => cases ha
  rename_i hlen
  subst hlen
  split at ha
  · rename_i y x r
    cases ht : mj_tg pc off with
    | none => rw [ht] at ha; cases ha
    | some t =>
      rw [ht, Option.bind_some] at ha
      simp only [mj_nx, Option.some.injEq, Sum.inl.injEq, Prod.mk.injEq] at ha
      obtain ⟨rfl, rfl, rfl, rfl⟩ := ha
      have hk := hk ls hl
      exact ⟨rfl, lv_icmp_ne hx hb hdg (mj_tg_eq ht) (fun q => by rwa [if_pos q] at hk) (fun q => by rwa [if_neg (fun z => z q)] at hk)⟩
  · cases ha
theorem mj_s_if_lt (hx : p.tables.exec = Jvm.exec) (hb : c.code = cc) {off : Int} (hdg : decode cc pc = .ok (.ifCond .lt off, len)) (ha : mj_ac1 lg pc (.ifCond .lt off) len loc st h = some (.inl (pc', loc', st', h'))) (hl : mj_LR lg loc ls nL)
    (hk : ∀ ls' : Array Slot, mj_LR lg loc' ls' nL → W p l e R s m args below meth c H locs cells slots Q (F0 m pc' ls' st')) : h' = h ∧ W p l e R s m args below meth c H locs cells slots Q (F0 m pc ls st) := by
  simp only [mj_ac1] at ha
  split at ha
  case isFalse => cases ha
  rename_i hlen
  subst hlen
  split at ha
  · rename_i x r
    cases ht : mj_tg pc off with
    | none => rw [ht] at ha; cases ha
    | some t =>
      rw [ht, Option.bind_some] at ha
      simp only [mj_nx, Option.some.injEq, Sum.inl.injEq, Prod.mk.injEq] at ha
      obtain ⟨rfl, rfl, rfl, rfl⟩ := ha
      have hk := hk ls hl
      exact ⟨rfl, lv_if_lt hx hb hdg (mj_tg_eq ht) (fun q => by rwa [if_pos q] at hk) (fun q => by rwa [if_neg q] at hk)⟩
  · cases ha
theorem mj_s_icmp_lt (hx : p.tables.exec = Jvm.exec) (hb : c.code = cc) {off : Int} (hdg : decode cc pc = .ok (.if_icmp .lt off, len)) (ha : mj_ac1 lg pc (.if_icmp .lt off) len loc st h = some (.inl (pc', loc', st', h'))) (hl : mj_LR lg loc ls nL)
    (hk : ∀ ls' : Array Slot, mj_LR lg loc' ls' nL → W p l e R s m args below meth c H locs cells slots Q (F0 m pc' ls' st')) : h' = h ∧ W p l e R s m args below meth c H locs cells slots Q (F0 m pc ls st) := by
  simp only [mj_ac1] at ha
  split at ha
  case isFalse => cases ha
  rename_i hlen
  subst hlen
  split at ha
  · rename_i y x r
    cases ht : mj_tg pc off with
    | none => rw [ht] at ha; cases ha
    | some t =>
      rw [ht, Option.bind_some] at ha
      simp only [mj_nx, Option.some.injEq, Sum.inl.injEq, Prod.mk.injEq] at ha
      obtain ⟨rfl, rfl, rfl, rfl⟩ := ha
      have hk := hk ls hl
      exact ⟨rfl, lv_icmp_lt hx hb hdg (mj_tg_eq ht) (fun q => by rwa [if_pos q] at hk) (fun q => by rwa [if_neg q] at hk)⟩
  · cases ha
theorem mj_s_if_ge (hx : p.tables.exec = Jvm.exec) (hb : c.code = cc) {off : Int} (hdg : decode cc pc = .ok (.ifCond .ge off, len)) (ha : mj_ac1 lg pc (.ifCond .ge off) len loc st h = some (.inl (pc', loc', st', h'))) (hl : mj_LR lg loc ls nL)
    (hk : ∀ ls' : Array Slot, mj_LR lg loc' ls' nL → W p l e R s m args below meth c H locs cells slots Q (F0 m pc' ls' st')) : h' = h ∧ W p l e R s m args below meth c H locs cells slots Q (F0 m pc ls st) := by
  simp only [mj_ac1] at ha
  split at ha
  case isFalse => cases ha
  rename_i hlen
  subst hlen
  split at ha
  · rename_i x r
    cases ht : mj_tg pc off with
    | none => rw [ht] at ha; cases ha
    | some t =>
      rw [ht, Option.bind_some] at ha
      simp only [mj_nx, Option.some.injEq, Sum.inl.injEq, Prod.mk.injEq] at ha
      obtain ⟨rfl, rfl, rfl, rfl⟩ := ha
      have hk := hk ls hl
      exact ⟨rfl, lv_if_ge hx hb hdg (mj_tg_eq ht) (fun q => by rwa [if_pos q] at hk) (fun q => by rwa [if_neg q] at hk)⟩
  · cases ha
theorem mj_s_icmp_ge (hx : p.tables.exec = Jvm.exec) (hb : c.code = cc) {off : Int} (hdg : decode cc pc = .ok (.if_icmp .ge off, len)) (ha : mj_ac1 lg pc (.if_icmp .ge off) len loc st h = some (.inl (pc', loc', st', h'))) (hl : mj_LR lg loc ls nL)
    (hk : ∀ ls' : Array Slot, mj_LR lg loc' ls' nL → W p l e R s m args below meth c H locs cells slots Q (F0 m pc' ls' st')) : h' = h ∧ W p l e R s m args below meth c H locs cells slots Q (F0 m pc ls st) := by
  simp only [mj_ac1] at ha
  split at ha
  case isFalse => cases ha
  rename_i hlen
  subst hlen
  split at ha
  · rename_i y x r
    cases ht : mj_tg pc off with
    | none => rw [ht] at ha; cases ha
    | some t =>
      rw [ht, Option.bind_some] at ha
      simp only [mj_nx, Option.some.injEq, Sum.inl.injEq, Prod.mk.injEq] at ha
      obtain ⟨rfl, rfl, rfl, rfl⟩ := ha
      have hk := hk ls hl
      exact ⟨rfl, lv_icmp_ge hx hb hdg (mj_tg_eq ht) (fun q => by rwa [if_pos q] at hk) (fun q => by rwa [if_neg q] at hk)⟩
  · cases ha
theorem mj_s_if_gt (hx : p.tables.exec = Jvm.exec) (hb : c.code = cc) {off : Int} (hdg : decode cc pc = .ok (.ifCond .gt off, len)) (ha : mj_ac1 lg pc (.ifCond .gt off) len loc st h = some (.inl (pc', loc', st', h'))) (hl : mj_LR lg loc ls nL)
    (hk : ∀ ls' : Array Slot, mj_LR lg loc' ls' nL → W p l e R s m args below meth c H locs cells slots Q (F0 m pc' ls' st')) : h' = h ∧ W p l e R s m args below meth c H locs cells slots Q (F0 m pc ls st) := by
  simp only [mj_ac1] at ha
  split at ha
  case isFalse => cases ha
  rename_i hlen
  subst hlen
  split at ha
  · rename_i x r
    cases ht : mj_tg pc off with
    | none => rw [ht] at ha; cases ha
    | some t =>
      rw [ht, Option.bind_some] at ha
      simp only [mj_nx, Option.some.injEq, Sum.inl.injEq, Prod.mk.injEq] at ha
      obtain ⟨rfl, rfl, rfl, rfl⟩ := ha
      have hk := hk ls hl
      exact ⟨rfl, lv_if_gt hx hb hdg (mj_tg_eq ht) (fun q => by rwa [if_pos q] at hk) (fun q => by rwa [if_neg q] at hk)⟩
  · cases ha
theorem mj_s_icmp_gt (hx : p.tables.exec = Jvm.exec) (hb : c.code = cc) {off : Int} (hdg : decode cc pc = .ok (.if_icmp .gt off, len)) (ha : mj_ac1 lg pc (.if_icmp .gt off) len loc st h = some (.inl (pc', loc', st', h'))) (hl : mj_LR lg loc ls nL)
    (hk : ∀ ls' : Array Slot, mj_LR lg loc' ls' nL → W p l e R s m args below meth c H locs cells slots Q (F0 m pc' ls' st')) : h' = h ∧ W p l e R s m args below meth c H locs cells slots Q (F0 m pc ls st) := by
  simp only [mj_ac1] at ha
  split at ha
  case isFalse => cases ha
  rename_i hlen
  subst hlen
  split at ha
  · rename_i y x r
    cases ht : mj_tg pc off with
    | none => rw [ht] at ha; cases ha
    | some t =>
      rw [ht, Option.bind_some] at ha
      simp only [mj_nx, Option.some.injEq, Sum.inl.injEq, Prod.mk.injEq] at ha
      obtain ⟨rfl, rfl, rfl, rfl⟩ := ha
      have hk := hk ls hl
      exact ⟨rfl, lv_icmp_gt hx hb hdg (mj_tg_eq ht) (fun q => by rwa [if_pos q] at hk) (fun q => by rwa [if_neg q] at hk)⟩
  · cases ha
theorem mj_s_if_le (hx : p.tables.exec = Jvm.exec) (hb : c.code = cc) {off : Int} (hdg : decode cc pc = .ok (.ifCond .le off, len)) (ha : mj_ac1 lg pc (.ifCond .le off) len loc st h = some (.inl (pc', loc', st', h'))) (hl : mj_LR lg loc ls nL)
    (hk : ∀ ls' : Array Slot, mj_LR lg loc' ls' nL → W p l e R s m args below meth c H locs cells slots Q (F0 m pc' ls' st')) : h' = h ∧ W p l e R s m args below meth c H locs cells slots Q (F0 m pc ls st) := by
  simp only [mj_ac1] at ha
  split at ha
  case isFalse => cases ha
  rename_i hlen
  subst hlen
  split at ha
  · rename_i x r
    cases ht : mj_tg pc off with
    | none => rw [ht] at ha; cases ha
    | some t =>
      rw [ht, Option.bind_some] at ha
      simp only [mj_nx, Option.some.injEq, Sum.inl.injEq, Prod.mk.injEq] at ha
      obtain ⟨rfl, rfl, rfl, rfl⟩ := ha
      have hk := hk ls hl
      exact ⟨rfl, lv_if_le hx hb hdg (mj_tg_eq ht) (fun q => by rwa [if_pos q] at hk) (fun q => by rwa [if_neg q] at hk)⟩
  · cases ha
theorem mj_s_icmp_le (hx : p.tables.exec = Jvm.exec) (hb : c.code = cc) {off : Int} (hdg : decode cc pc = .ok (.if_icmp .le off, len)) (ha : mj_ac1 lg pc (.if_icmp .le off) len loc st h = some (.inl (pc', loc', st', h'))) (hl : mj_LR lg loc ls nL)
    (hk : ∀ ls' : Array Slot, mj_LR lg loc' ls' nL → W p l e R s m args below meth c H locs cells slots Q (F0 m pc' ls' st')) : h' = h ∧ W p l e R s m args below meth c H locs cells slots Q (F0 m pc ls st) := by
  simp only [mj_ac1] at ha
  split at ha
  case isFalse => cases ha
  rename_i hlen
  subst hlen
  split at ha
  · rename_i y x r
    cases ht : mj_tg pc off with
    | none => rw [ht] at ha; cases ha
    | some t =>
      rw [ht, Option.bind_some] at ha
      simp only [mj_nx, Option.some.injEq, Sum.inl.injEq, Prod.mk.injEq] at ha
      obtain ⟨rfl, rfl, rfl, rfl⟩ := ha
      have hk := hk ls hl
      exact ⟨rfl, lv_icmp_le hx hb hdg (mj_tg_eq ht) (fun q => by rwa [if_pos q] at hk) (fun q => by rwa [if_neg q] at hk)⟩
  · cases ha
theorem mj_s_ifnull (hx : p.tables.exec = Jvm.exec) (hb : c.code = cc) {off : Int} (hdg : decode cc pc = .ok (.ifnull off, len)) (ha : mj_ac1 lg pc (.ifnull off) len loc st h = some (.inl (pc', loc', st', h'))) (hl : mj_LR lg loc ls nL)
    (hk : ∀ ls' : Array Slot, mj_LR lg loc' ls' nL → W p l e R s m args below meth c H locs cells slots Q (F0 m pc' ls' st')) : h' = h ∧ W p l e R s m args below meth c H locs cells slots Q (F0 m pc ls st) := by
  simp only [mj_ac1] at ha
  split at ha
  case isFalse => cases ha
  rename_i hlen
  subst hlen
  split at ha
  · rename_i r
    cases ht : mj_tg pc off with
    | none => rw [ht] at ha; cases ha
    | some t =>
      rw [ht, Option.bind_some] at ha
      simp only [mj_nx, Option.some.injEq, Sum.inl.injEq, Prod.mk.injEq] at ha
      obtain ⟨rfl, rfl, rfl, rfl⟩ := ha
      have hk := hk ls hl
      exact ⟨rfl, lv_ifnullN hx hb hdg (mj_tg_eq ht) hk⟩
  · rename_i x r
    simp only [mj_nx, Option.some.injEq, Sum.inl.injEq, Prod.mk.injEq] at ha
    obtain ⟨rfl, rfl, rfl, rfl⟩ := ha
    exact ⟨rfl, lv_ifnull hx hb hdg (hk ls hl)⟩
  · cases ha
theorem mj_s_ifnonnull (hx : p.tables.exec = Jvm.exec) (hb : c.code = cc) {off : Int} (hdg : decode cc pc = .ok (.ifnonnull off, len)) (ha : mj_ac1 lg pc (.ifnonnull off) len loc st h = some (.inl (pc', loc', st', h'))) (hl : mj_LR lg loc ls nL)
    (hk : ∀ ls' : Array Slot, mj_LR lg loc' ls' nL → W p l e R s m args below meth c H locs cells slots Q (F0 m pc' ls' st')) : h' = h ∧ W p l e R s m args below meth c H locs cells slots Q (F0 m pc ls st) := by
  simp only [mj_ac1] at ha
  split at ha
  case isFalse => cases ha
  rename_i hlen
  subst hlen
  split at ha
  · rename_i x r
    cases ht : mj_tg pc off with
    | none => rw [ht] at ha; cases ha
    | some t =>
      rw [ht, Option.bind_some] at ha
      simp only [mj_nx, Option.some.injEq, Sum.inl.injEq, Prod.mk.injEq] at ha
      obtain ⟨rfl, rfl, rfl, rfl⟩ := ha
      have hk := hk ls hl
      exact ⟨rfl, lv_ifnonnull hx hb hdg (mj_tg_eq ht) hk⟩
  · rename_i r
    simp only [mj_nx, Option.some.injEq, Sum.inl.injEq, Prod.mk.injEq] at ha
    obtain ⟨rfl, rfl, rfl, rfl⟩ := ha
    exact ⟨rfl, lv_ifnonnullN hx hb hdg (hk ls hl)⟩
  · cases ha
theorem mj_s_goto (hx : p.tables.exec = Jvm.exec) (hb : c.code = cc) {off : Int} (hdg : decode cc pc = .ok (.goto off, len)) (ha : mj_ac1 lg pc (.goto off) len loc st h = some (.inl (pc', loc', st', h'))) (hl : mj_LR lg loc ls nL)
    (hk : ∀ ls' : Array Slot, mj_LR lg loc' ls' nL → W p l e R s m args below meth c H locs cells slots Q (F0 m pc' ls' st')) : h' = h ∧ W p l e R s m args below meth c H locs cells slots Q (F0 m pc ls st) := by
  simp only [mj_ac1] at ha
  split at ha
  case isFalse => cases ha
  rename_i hlen
  subst hlen
  cases ht : mj_tg pc off with
  | none => rw [ht] at ha; cases ha
  | some t =>
    rw [ht, Option.bind_some] at ha
    simp only [mj_nx, Option.some.injEq, Sum.inl.injEq, Prod.mk.injEq] at ha
    obtain ⟨rfl, rfl, rfl, rfl⟩ := ha
    have hk := hk ls hl
    exact ⟨rfl, lv_goto hx hb hdg (mj_tg_eq ht) hk⟩
theorem mj_s_tableswitch (hx : p.tables.exec = Jvm.exec) (hb : c.code = cc) {d lo hi : Int} {offs : Array Int} (hdg : decode cc pc = .ok (.tableswitch d lo hi offs, len)) (ha : mj_ac1 lg pc (.tableswitch d lo hi offs) len loc st h = some (.inl (pc', loc', st', h'))) (hl : mj_LR lg loc ls nL)
    (hk : ∀ ls' : Array Slot, mj_LR lg loc' ls' nL → W p l e R s m args below meth c H locs cells slots Q (F0 m pc' ls' st')) : h' = h ∧ W p l e R s m args below meth c H locs cells slots Q (F0 m pc ls st) := by
  simp only [mj_ac1] at ha
  split at ha
  · rename_i x r
    split at ha
    · rename_i hc
      cases ht : mj_tg pc d with
      | none => rw [ht] at ha; cases ha
      | some t =>
        rw [ht, Option.bind_some] at ha
        simp only [mj_nx, Option.some.injEq, Sum.inl.injEq, Prod.mk.injEq] at ha
        obtain ⟨rfl, rfl, rfl, rfl⟩ := ha
        have hk := hk ls hl
        exact ⟨rfl, lv_tableOut hx hb hdg hc (mj_tg_eq ht) hk⟩
    · rename_i hc
      cases ho : offs[(x.toInt - lo).toNat]? with
      | none => rw [ho] at ha; cases ha
      | some off =>
      rw [ho, Option.bind_some] at ha
      cases ht : mj_tg pc off with
      | none => rw [ht] at ha; cases ha
      | some t =>
        rw [ht, Option.bind_some] at ha
        simp only [mj_nx, Option.some.injEq, Sum.inl.injEq, Prod.mk.injEq] at ha
        obtain ⟨rfl, rfl, rfl, rfl⟩ := ha
        have hk := hk ls hl
        exact ⟨rfl, lv_tableIn hx hb hdg (fun q => hc (Or.inl q)) (fun q => hc (Or.inr q)) ho (mj_tg_eq ht) hk⟩
  · cases ha
theorem mj_s_lookupswitch (hx : p.tables.exec = Jvm.exec) (hb : c.code = cc) {d : Int} {ps : Array (Int × Int)} (hdg : decode cc pc = .ok (.lookupswitch d ps, len)) (ha : mj_ac1 lg pc (.lookupswitch d ps) len loc st h = some (.inl (pc', loc', st', h'))) (hl : mj_LR lg loc ls nL)
    (hk : ∀ ls' : Array Slot, mj_LR lg loc' ls' nL → W p l e R s m args below meth c H locs cells slots Q (F0 m pc' ls' st')) : h' = h ∧ W p l e R s m args below meth c H locs cells slots Q (F0 m pc ls st) := by
  simp only [mj_ac1] at ha
  split at ha
  · rename_i x r
    split at ha
    · rename_i hc
      cases ht : mj_tg pc (Op.lookupswitch.offset ps.toList d x.toInt) with
      | none => rw [ht] at ha; cases ha
      | some t =>
        rw [ht, Option.bind_some] at ha
        simp only [mj_nx, Option.some.injEq, Sum.inl.injEq, Prod.mk.injEq] at ha
        obtain ⟨rfl, rfl, rfl, rfl⟩ := ha
        have hk := hk ls hl
        exact ⟨rfl, lv_lookup hx hb hdg hc rfl (mj_tg_eq ht) hk⟩
    · cases ha
  · cases ha
/-- all of them -/
theorem mj_sim1 (hx : p.tables.exec = Jvm.exec) (hb : c.code = cc) {i : Instr} (hdg : decode cc pc = .ok (i, len)) (ha : mj_ac1 lg pc i len loc st h = some (.inl (pc', loc', st', h'))) (hl : mj_LR lg loc ls nL)
    (hk : ∀ ls' : Array Slot, mj_LR lg loc' ls' nL → W p l e R s m args below meth c H locs cells slots Q (F0 m pc' ls' st')) : h' = h ∧ W p l e R s m args below meth c H locs cells slots Q (F0 m pc ls st) := by
  cases i with
  | iload_n _ => exact mj_s_iload_n hx hb hdg ha hl hk
  | iload _ => exact mj_s_iload hx hb hdg ha hl hk
  | lload_n _ => exact mj_s_lload_n hx hb hdg ha hl hk
  | lload _ => exact mj_s_lload hx hb hdg ha hl hk
  | aload_n _ => exact mj_s_aload_n hx hb hdg ha hl hk
  | aload _ => exact mj_s_aload hx hb hdg ha hl hk
  | istore_n _ => exact mj_s_istore_n hx hb hdg ha hl hk
  | lstore_n _ => exact mj_s_lstore_n hx hb hdg ha hl hk
  | astore_n _ => exact mj_s_astore_n hx hb hdg ha hl hk
  | istore _ => exact mj_s_istore hx hb hdg ha hl hk
  | lstore _ => exact mj_s_lstore hx hb hdg ha hl hk
  | astore _ => exact mj_s_astore hx hb hdg ha hl hk
  | iinc _ _ => exact mj_s_iinc hx hb hdg ha hl hk
  | iconst _ => exact mj_s_iconst hx hb hdg ha hl hk
  | bipush _ => exact mj_s_bipush hx hb hdg ha hl hk
  | sipush _ => exact mj_s_sipush hx hb hdg ha hl hk
  | lconst _ => exact mj_s_lconst hx hb hdg ha hl hk
  | aconst_null => exact mj_s_aconst_null hx hb hdg ha hl hk
  | iadd => exact mj_s_iadd hx hb hdg ha hl hk
  | isub => exact mj_s_isub hx hb hdg ha hl hk
  | imul => exact mj_s_imul hx hb hdg ha hl hk
  | iand => exact mj_s_iand hx hb hdg ha hl hk
  | ior => exact mj_s_ior hx hb hdg ha hl hk
  | ishl => exact mj_s_ishl hx hb hdg ha hl hk
  | ishr => exact mj_s_ishr hx hb hdg ha hl hk
  | ladd => exact mj_s_ladd hx hb hdg ha hl hk
  | lsub => exact mj_s_lsub hx hb hdg ha hl hk
  | lmul => exact mj_s_lmul hx hb hdg ha hl hk
  | iushr => exact mj_s_iushr hx hb hdg ha hl hk
  | lcmp => exact mj_s_lcmp hx hb hdg ha hl hk
  | idiv => exact mj_s_idiv hx hb hdg ha hl hk
  | irem => exact mj_s_irem hx hb hdg ha hl hk
  | ldiv => exact mj_s_ldiv hx hb hdg ha hl hk
  | i2l => exact mj_s_i2l hx hb hdg ha hl hk
  | l2i => exact mj_s_l2i hx hb hdg ha hl hk
  | i2b => exact mj_s_i2b hx hb hdg ha hl hk
  | dup => exact mj_s_dup hx hb hdg ha hl hk
  | dup2 => exact mj_s_dup2 hx hb hdg ha hl hk
  | ifCond cd off =>
    cases cd with
    | eq => exact mj_s_if_eq hx hb hdg ha hl hk
    | ne => exact mj_s_if_ne hx hb hdg ha hl hk
    | lt => exact mj_s_if_lt hx hb hdg ha hl hk
    | ge => exact mj_s_if_ge hx hb hdg ha hl hk
    | gt => exact mj_s_if_gt hx hb hdg ha hl hk
    | le => exact mj_s_if_le hx hb hdg ha hl hk
  | if_icmp cd off =>
    cases cd with
    | eq => exact mj_s_icmp_eq hx hb hdg ha hl hk
    | ne => exact mj_s_icmp_ne hx hb hdg ha hl hk
    | lt => exact mj_s_icmp_lt hx hb hdg ha hl hk
    | ge => exact mj_s_icmp_ge hx hb hdg ha hl hk
    | gt => exact mj_s_icmp_gt hx hb hdg ha hl hk
    | le => exact mj_s_icmp_le hx hb hdg ha hl hk
  | ifnull _ => exact mj_s_ifnull hx hb hdg ha hl hk
  | ifnonnull _ => exact mj_s_ifnonnull hx hb hdg ha hl hk
  | goto _ => exact mj_s_goto hx hb hdg ha hl hk
  | tableswitch _ _ _ _ => exact mj_s_tableswitch hx hb hdg ha hl hk
  | lookupswitch _ _ => exact mj_s_lookupswitch hx hb hdg ha hl hk
  | _ => simp [mj_ac1] at ha
theorem mj_ac1_inl {i : Instr} {a : mj_N ⊕ ((Nat × List Value × List Value) ⊕ Option Value)} (ha : mj_ac1 lg pc i len loc st h = some a) : ∃ x, a = .inl x := by
  unfold mj_ac1 at ha
  split at ha <;> repeat' (first | (split at ha) | (cases ha; done) | (simp only [mj_nx, Option.some.injEq, Option.bind_eq_some_iff] at ha; first | exact ⟨_, ha.symm⟩ | (obtain ⟨_, _, ha⟩ := ha; first | exact ⟨_, ha.symm⟩ | (obtain ⟨_, _, ha⟩ := ha; exact ⟨_, ha.symm⟩))))
end MJ1
