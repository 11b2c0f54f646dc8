/-! Calls, returns, and the whole -/
theorem mj_ac1_h {lg : List Nat} {pc : Nat} {i : Instr} {len : Nat} {loc : mj_L} {st : List Value} {h : mj_H} {x : mj_N} (ha : mj_ac1 lg pc i len loc st h = some (.inl x)) : x.2.2.2 = h := by
  unfold mj_ac1 at ha
  split at ha <;> repeat' (first | (split at ha) | (cases ha; done) | (simp only [mj_nx, Option.some.injEq, Option.bind_eq_some_iff, Sum.inl.injEq] at ha; first | (subst ha; rfl) | (obtain ⟨_, _, ha⟩ := ha; first | (subst ha; rfl) | (obtain ⟨_, _, ha⟩ := ha; subst ha; rfl))))
theorem mj_ac2_mono {V : mj_V} {M : mj_M} {pc : Nat} {i : Instr} {len : Nat} {loc : mj_L} {st : List Value} {h : mj_H} {x : mj_N} (ha : mj_ac2 V M pc i len loc st h = some (.inl x)) : h.2.length ≤ x.2.2.2.2.length ∧ h.1 ≤ x.2.2.2.1 := by
  unfold mj_ac2 at ha
  split at ha <;> repeat' (first | (split at ha) | (cases ha; done) | (simp only [mj_go, Option.map_eq_some_iff, reduceCtorEq, and_false, exists_false] at ha; done) | (simp only [mj_nx, Option.some.injEq, Sum.inl.injEq] at ha; subst ha; simp [mj_set]; done) | (obtain ⟨_, _, ha⟩ := ha) | (simp only [Option.bind_eq_some_iff] at ha; obtain ⟨_, _, ha⟩ := ha) | (simp only [mj_go] at ha; split at ha <;> simp at ha; done))
theorem mj_act_mono {V : mj_V} {M : mj_M} {pc : Nat} {i : Instr} {len : Nat} {loc : mj_L} {st : List Value} {h : mj_H} {x : mj_N} (ha : mj_act V M pc i len loc st h = some (.inl x)) : h.2.length ≤ x.2.2.2.2.length ∧ h.1 ≤ x.2.2.2.1 := by
  unfold mj_act at ha
  split at ha
  · rename_i a h1
    rw [Option.some.injEq] at ha
    subst ha
    rw [mj_ac1_h h1]
    exact ⟨Nat.le_refl _, Nat.le_refl _⟩
  · exact mj_ac2_mono ha
theorem mj_run_mono {V : mj_V} : ∀ {n mi pc : Nat} {loc : mj_L} {st : List Value} {h : mj_H} {v : Option Value} {h' : mj_H}, mj_run V n mi pc loc st h = some (v, h') → h.2.length ≤ h'.2.length ∧ h.1 ≤ h'.1
  | 0, _, _, _, _, _, _, _, hr => by cases hr
  | n + 1, mi, pc, loc, st, h, v, h', hr => by
    simp only [mj_run, Option.bind_eq_some_iff] at hr
    obtain ⟨M, hM, q, hq, a, ha, hr⟩ := hr
    split at hr
    · rename_i x
      have h1 := mj_act_mono ha
      have h2 := mj_run_mono hr
      omega
    · rename_i y
      simp only [Option.bind_eq_some_iff] at hr
      obtain ⟨K, hK, hr⟩ := hr
      split at hr
      · simp only [Option.bind_eq_some_iff] at hr
        obtain ⟨l0, hl0, r, hr0, hr⟩ := hr
        have h1 := mj_run_mono (v := r.1) (h' := r.2) hr0
        have h2 := mj_run_mono hr
        omega
      · cases hr
    · cases hr
      exact ⟨Nat.le_refl _, Nat.le_refl _⟩
def mj_Qc (V : mj_V) (D : va_G) (tys : mj_T) (v : Option Value) (h : mj_H) : Array Value → State → Outcome → State → Prop := fun _ st oc t => (oc = .returned v ∧ mj_HR V D tys h t.heap) ∧ va_F (mj_D V) st t
def mj_B (V : mj_V) (D : va_G) (tys : mj_T) (h : mj_H) (U : State) : Prop := mj_X V D tys U ∧ mj_HR V D tys h U.heap ∧ U.heap.size = V.1 + h.2.length
def mj_rm (K : mj_M) (h h' : mj_H) : Room := { frames := K.2.2.2.2.2.2.1, cells := h'.2.length - h.2.length, slots := h'.1 - h.1, locals := K.2.2.2.2.2.2.2 }
def mj_kw (K : mj_M) : Jvm.Cond := .code K.2.1 K.2.2.1 K.2.2.2.1 K.2.2.2.2.1
def mj_Met (l : Launch) (V : mj_V) (D : va_G) (tys : mj_T) (K : mj_M) (as : List Value) (h : mj_H) (v : Option Value) (h' : mj_H) : Prop :=
  Met l K.2.1 [mj_kw K] (mj_rm K h h') (va_Pc as (mj_B V D tys h)) (mj_Qc V D tys v h') (h'.2.length - h.2.length) (h'.1 - h.1) (mj_D V)
theorem mj_blind {V : mj_V} {D : va_G} {tys : mj_T} {as : List Value} {h : mj_H} : FrameBlind (va_Pc as (mj_B V D tys h)) := by
  intro a U g mk hp
  obtain ⟨h1, h2, h3, h4⟩ := hp
  exact ⟨h1, h2.blind g mk a, h3, h4⟩
section MJ3
variable {p : Program} {l : Launch} {e : Env} {R : Room} {s : State} {m : MethodId} {args : Array Value} {below : List Frame} {meth : Method} {c : Code} {H : Heap} {locs : List Loc} {cells slots : Nat} {Q : State → Prop}
variable {cc : ByteArray} {pc pc' len mc ms : Nat} {ls : Array Slot} {st st' rest : List Value} {loc loc' : mj_L} {h h' h1 : mj_H} {V : mj_V} {D : va_G} {tys : mj_T} {M K : mj_M} {v : Option Value} {a : Array Value}
theorem mj_callW (hr : va_Run p l e R s m args below meth c H locs cells slots mc ms (F0 m pc ls st) rest (mj_Qc V D tys v h1 a) (mj_D V)) (hS : va_S (mj_D V) s.heap H locs)
    (kk : ∀ (H1 : Heap) (locs1 : List Loc), mj_HR V D tys h1 H1 → va_S (mj_D V) s.heap H1 locs1 → W p l e R s m args below meth c H1 locs1 (cells + mc) (slots + ms) Q (F0 m (pc + 3) ls (v.toList ++ rest))) : W p l e R s m args below meth c H locs cells slots Q (F0 m pc ls st) := by
  intro T hT X
  obtain ⟨w, st₀, t, T', L, h0, X', hL, e1, e2, ⟨⟨hv, hp⟩, hz, hk⟩, stp⟩ := hr T hT X
  cases hv
  rw [h0] at hz hk
  obtain ⟨t2, a1, b1⟩ := kk T'.heap (locs ++ L) (by rw [e1]; exact hp)
    ⟨Nat.le_trans hS.1 (by rw [e1]; exact hz), fun q g1 g2 => by rw [e1, hk q (Nat.lt_of_lt_of_le g1 hS.1) g2]; exact hS.2.1 q g1 g2, fun q hq => by
      rcases List.mem_append.mp hq with g | g
      · exact hS.2.2 q g
      · exact hL q g⟩ T' rfl X'
  exact ⟨t2, stp t2 a1, b1⟩
theorem mj_retW (hx : p.tables.exec = Jvm.exec) (hb : c.code = cc) {ty : Option FieldType} (hr : meth.sig.returnType = ty) (hlocks : meth.locks = false) {i : Instr} (hdg : decode cc pc = .ok (i, 1)) (hv : mj_ret ty i st = some v) (hR : mj_HR V D tys h H) (hS : va_S (mj_D V) s.heap H locs) :
    W p l e R s m args below meth c H locs cells slots (MQ below (mj_Qc V D tys v h) args s cells slots (mj_D V)) (F0 m pc ls st) := by
  have hq : ∀ t : State, t.heap = H → s.WarmedH t.vm → mj_Qc V D tys v h args s (.returned v) t := fun t ht _ => ⟨⟨rfl, by rw [ht]; exact hR⟩, hS.F ht⟩
  unfold mj_ret at hv
  split at hv
  · cases hv
    exact W.vret hx hb hr hq hS.2.2 hdg hlocks
  · cases hv
    exact W.iret hx hb hr hq hS.2.2 hdg hlocks
  · rename_i x
    split at hv
    · rename_i h01
      cases hv
      exact W.zret hx hb hr (by rcases h01 with rfl | rfl <;> rfl) hq hS.2.2 hdg hlocks
    · cases hv
  · cases hv
    exact W.lret hx hb hr hq hS.2.2 hdg hlocks
  · cases hv
    exact W.aret hx hb hr (Or.inl ⟨_, rfl⟩) (Or.inr ⟨_, rfl⟩) hq hS.2.2 hdg hlocks
  · cases hv
    exact W.aret hx hb hr (Or.inl ⟨_, rfl⟩) (Or.inl rfl) hq hS.2.2 hdg hlocks
  · cases hv
end MJ3
/-- the locals at a method's entry -/
theorem mj_lgok_mem {lg : List Nat} : ∀ (vs : List Value) (i : Nat), mj_lgok lg i vs = true → ∀ (j : Nat) (w : Value), (mj_sl vs)[j]? = some (some w) → (i + j, w) ∈ lv_args i vs ∧ (w.category = 2 → lg.contains (i + j) = true)
  | [], i, _, j, w, hj => by simp [mj_sl] at hj
  | v :: vs, i, hg, j, w, hj => by
    have two : ∀ u : Value, v = u → u.category = 2 → mj_sl (v :: vs) = some u :: none :: mj_sl vs → lg.contains i = true → mj_lgok lg (i + 2) vs = true → (i + j, w) ∈ lv_args i (v :: vs) ∧ (w.category = 2 → lg.contains (i + j) = true) := by
      intro u e1 e2 e3 e4 e5
      subst e1
      rw [e3] at hj
      match j, hj with
      | 0, hj =>
        simp only [List.getElem?_cons_zero, Option.some.injEq] at hj
        subst hj
        exact ⟨by simp [lv_args], fun _ => e4⟩
      | 1, hj => simp at hj
      | j + 2, hj =>
        simp only [List.getElem?_cons_succ] at hj
        obtain ⟨q1, q2⟩ := mj_lgok_mem vs (i + 2) e5 j w hj
        refine ⟨?_, fun z => ?_⟩
        · rw [lv_args, if_pos e2, show i + (j + 2) = i + 2 + j by omega]
          exact List.mem_cons_of_mem _ q1
        · rw [show i + (j + 2) = i + 2 + j by omega]
          exact q2 z
    have one : ¬ v.category = 2 → mj_sl (v :: vs) = some v :: mj_sl vs → mj_lgok lg (i + 1) vs = true → (i + j, w) ∈ lv_args i (v :: vs) ∧ (w.category = 2 → lg.contains (i + j) = true) := by
      intro e2 e3 e5
      rw [e3] at hj
      match j, hj with
      | 0, hj =>
        simp only [List.getElem?_cons_zero, Option.some.injEq] at hj
        subst hj
        exact ⟨by simp [lv_args], fun z => absurd z e2⟩
      | j + 1, hj =>
        simp only [List.getElem?_cons_succ] at hj
        obtain ⟨q1, q2⟩ := mj_lgok_mem vs (i + 1) e5 j w hj
        refine ⟨?_, fun z => ?_⟩
        · rw [lv_args, if_neg e2, show i + (j + 1) = i + 1 + j by omega]
          exact List.mem_cons_of_mem _ q1
        · rw [show i + (j + 1) = i + 1 + j by omega]
          exact q2 z
    cases v with
    | long x =>
      simp only [mj_lgok, Bool.and_eq_true] at hg
      exact two _ rfl rfl rfl hg.1 hg.2
    | double x =>
      simp only [mj_lgok, Bool.and_eq_true] at hg
      exact two _ rfl rfl rfl hg.1 hg.2
    | int x => exact one (by simp [Value.category]) rfl hg
    | float x => exact one (by simp [Value.category]) rfl hg
    | null => exact one (by simp [Value.category]) rfl hg
    | ref x => exact one (by simp [Value.category]) rfl hg
    | retAddr x => exact one (by simp [Value.category]) rfl hg
theorem mj_sl_len : ∀ vs : List Value, (mj_sl vs).length = (lg_sl vs).length
  | [] => rfl
  | v :: vs => by
    have ih := mj_sl_len vs
    cases v <;> simp [mj_sl, lg_sl, Value.category] at ih ⊢ <;> omega
theorem mj_ent_LR {lg : List Nat} {n : Nat} {as : List Value} {l0 : mj_L} (h : mj_ent lg n as = some l0) : mj_LR lg l0 ((lg_sl as ++ List.replicate (n - (lg_sl as).length) Slot.unset).toArray) n := by
  unfold mj_ent at h
  split at h
  · rename_i hh
    obtain ⟨h1, h2⟩ := hh
    cases h
    have hl := lv_entry as (n := n) (by rw [← mj_sl_len]; exact h2)
    have key : ∀ (j : Nat) (w : Value), (mj_sl as ++ List.replicate (n - (mj_sl as).length) none)[j]? = some (some w) → (mj_sl as)[j]? = some (some w) := by
      intro j w hj
      by_cases hlt : j < (mj_sl as).length
      · rwa [List.getElem?_append_left hlt] at hj
      · rw [List.getElem?_append_right (by omega)] at hj
        have := List.mem_of_getElem? hj
        rw [List.mem_replicate] at this
        cases this.2
    refine ⟨by rw [List.length_append, List.length_replicate]; omega, ⟨hl.1, hl.2.1, fun q hq => ?_⟩, fun j w hj hc => ?_⟩
    · obtain ⟨j, w⟩ := q
      have h3 := (mj_lgok_mem as 0 h1 j w (key j w (mj_as_mem0.mp hq))).1
      rw [Nat.zero_add] at h3
      exact hl.2.2 (j, w) h3
    · have h3 := (mj_lgok_mem as 0 h1 j w (key j w hj)).2 hc
      rwa [Nat.zero_add] at h3
  · cases h
