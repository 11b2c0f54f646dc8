/-! The small machine's runs as values: mj_ev is what a run answers, however long it takes -/
theorem mj_run_succ {V : mj_V} : ∀ {n mi pc : Nat} {loc : mj_L} {st : List Value} {h : mj_H} {r : Option Value × mj_H}, mj_run V n mi pc loc st h = some r → mj_run V (n + 1) mi pc loc st h = some r
  | 0, _, _, _, _, _, _, hr => by cases hr
  | n + 1, mi, pc, loc, st, h, r, hr => by
    rw [mj_run] at hr ⊢
    simp only [Option.bind_eq_some_iff] at hr ⊢
    obtain ⟨M, hM, q, hq, a, ha, hr⟩ := hr
    refine ⟨M, hM, q, hq, a, ha, ?_⟩
    split at hr
    · exact mj_run_succ hr
    · simp only [Option.bind_eq_some_iff] at hr ⊢
      obtain ⟨K, hK, hr⟩ := hr
      refine ⟨K, hK, ?_⟩
      split at hr
      · rename_i hh
        rw [if_pos hh]
        simp only [Option.bind_eq_some_iff] at hr ⊢
        obtain ⟨l0, hl0, r0, hr0, hr⟩ := hr
        exact ⟨l0, hl0, r0, mj_run_succ hr0, mj_run_succ hr⟩
      · cases hr
    · exact hr
theorem mj_run_add {V : mj_V} {n mi pc : Nat} {loc : mj_L} {st : List Value} {h : mj_H} {r : Option Value × mj_H} (hr : mj_run V n mi pc loc st h = some r) : ∀ k, mj_run V (n + k) mi pc loc st h = some r
  | 0 => hr
  | k + 1 => mj_run_succ (mj_run_add hr k)
theorem mj_run_det {V : mj_V} {n n' mi pc : Nat} {loc : mj_L} {st : List Value} {h : mj_H} {r r' : Option Value × mj_H} (hr : mj_run V n mi pc loc st h = some r) (hr' : mj_run V n' mi pc loc st h = some r') : r = r' := by
  have h1 := mj_run_add hr n'
  have h2 := mj_run_add hr' n
  rw [Nat.add_comm] at h2
  exact Option.some.inj (h1.symm.trans h2)
noncomputable def mj_ev (V : mj_V) (mi pc : Nat) (loc : mj_L) (st : List Value) (h : mj_H) : Option (Option Value × mj_H) :=
  @dite _ (∃ r, ∃ n, mj_run V n mi pc loc st h = some r) (Classical.propDecidable _) (fun hh => some (Classical.choose hh)) (fun _ => none)
theorem mj_ev_iff {V : mj_V} {mi pc : Nat} {loc : mj_L} {st : List Value} {h : mj_H} {r : Option Value × mj_H} : mj_ev V mi pc loc st h = some r ↔ ∃ n, mj_run V n mi pc loc st h = some r := by
  unfold mj_ev
  constructor
  · intro he
    split at he
    · rename_i hh
      cases he
      exact Classical.choose_spec hh
    · cases he
  · rintro ⟨n, hn⟩
    have hh : ∃ r, ∃ n, mj_run V n mi pc loc st h = some r := ⟨r, n, hn⟩
    rw [dif_pos hh]
    obtain ⟨n', hn'⟩ := Classical.choose_spec hh
    rw [mj_run_det hn' hn]
theorem mj_opt_ext {α : Type} {a b : Option α} (h : ∀ r, a = some r ↔ b = some r) : a = b := by
  cases a with
  | some x => exact ((h x).mp rfl).symm
  | none =>
    cases b with
    | none => rfl
    | some y => exact (h y).mpr rfl
section MJ5
variable {V : mj_V} {mi pc : Nat} {loc : mj_L} {st : List Value} {h : mj_H} {M : mj_M} {i : Instr} {len : Nat}
theorem mj_fe_of {c : ByteArray} (h : decode c pc = .ok (i, len)) : mj_fe c pc = some (i, len) := by
  unfold mj_fe
  rw [h]
theorem mj_next (hM : mj_ms[mi]? = some M) (hd : decode M.2.2.1 pc = .ok (i, len)) {x : mj_N} (ha : mj_act V M pc i len loc st h = some (.inl x)) : mj_ev V mi pc loc st h = mj_ev V mi x.1 x.2.1 x.2.2.1 x.2.2.2 := by
  refine mj_opt_ext fun r => ?_
  rw [mj_ev_iff, mj_ev_iff]
  constructor
  · rintro ⟨n, hn⟩
    cases n with
    | zero => cases hn
    | succ n =>
      rw [mj_run, hM, Option.bind_some, mj_fe_of hd, Option.bind_some, ha, Option.bind_some] at hn
      exact ⟨n, hn⟩
  · rintro ⟨n, hn⟩
    refine ⟨n + 1, ?_⟩
    rw [mj_run, hM, Option.bind_some, mj_fe_of hd, Option.bind_some, ha, Option.bind_some]
    exact hn
theorem mj_back (hM : mj_ms[mi]? = some M) (hd : decode M.2.2.1 pc = .ok (i, len)) {v : Option Value} (ha : mj_act V M pc i len loc st h = some (.inr (.inr v))) : mj_ev V mi pc loc st h = some (v, h) := by
  rw [mj_ev_iff]
  refine ⟨1, ?_⟩
  rw [mj_run, hM, Option.bind_some, mj_fe_of hd, Option.bind_some, ha, Option.bind_some]
theorem mj_fall (hM : mj_ms[mi]? = some M) (hd : decode M.2.2.1 pc = .ok (i, len)) (ha : mj_act V M pc i len loc st h = none) : mj_ev V mi pc loc st h = none := by
  cases hv : mj_ev V mi pc loc st h with
  | none => rfl
  | some r =>
    obtain ⟨n, hn⟩ := mj_ev_iff.mp hv
    cases n with
    | zero => cases hn
    | succ n =>
      rw [mj_run, hM, Option.bind_some, mj_fe_of hd, Option.bind_some, ha] at hn
      cases hn
theorem mj_invoke (hM : mj_ms[mi]? = some M) (hd : decode M.2.2.1 pc = .ok (i, len)) {ck : Nat} {as rest : List Value} {K : mj_M} {l0 : mj_L} (ha : mj_act V M pc i len loc st h = some (.inr (.inl (ck, as, rest)))) (hK : mj_ms[ck]? = some K) (hr : mj_rok M K rest = true) (hc : ck < 218) (he : mj_ent K.2.2.2.2.2.1 K.2.2.2.1 as = some l0) :
    mj_ev V mi pc loc st h = (mj_ev V ck 0 l0 [] h).bind (fun r => mj_ev V mi (pc + len) loc (r.1.toList ++ rest) r.2) := by
  refine mj_opt_ext fun r => ?_
  rw [mj_ev_iff, Option.bind_eq_some_iff]
  constructor
  · rintro ⟨n, hn⟩
    cases n with
    | zero => cases hn
    | succ n =>
      rw [mj_run, hM, Option.bind_some, mj_fe_of hd, Option.bind_some, ha, Option.bind_some] at hn
      simp only [hK, Option.bind_some, hr, hc, and_self, if_true, he, Option.bind_eq_some_iff] at hn
      obtain ⟨r0, h1, h2⟩ := hn
      exact ⟨r0, mj_ev_iff.mpr ⟨n, h1⟩, mj_ev_iff.mpr ⟨n, h2⟩⟩
  · rintro ⟨r0, h1, h2⟩
    obtain ⟨n1, h1⟩ := mj_ev_iff.mp h1
    obtain ⟨n2, h2⟩ := mj_ev_iff.mp h2
    refine ⟨n1 + n2 + 1, ?_⟩
    rw [mj_run, hM, Option.bind_some, mj_fe_of hd, Option.bind_some, ha, Option.bind_some]
    simp only [hK, Option.bind_some, hr, hc, and_self, if_true, he, Option.bind_eq_some_iff]
    exact ⟨r0, mj_run_add h1 n2, by rw [Nat.add_comm]; exact mj_run_add h2 n1⟩
end MJ5
/-! reads and writes of the heap, as the rows name them -/
def mj_fld (V : mj_V) (h : mj_H) (a g : Nat) : Option Value := match mj_get V h a with
  | some (.inr (ci, f)) => if mj_has ci g = true then some (f g) else none
  | _ => none
def mj_sfl (V : mj_V) (h : mj_H) (a g : Nat) (v : Value) : Option mj_H := match mj_get V h a with
  | some (.inr (ci, f)) => if mj_has ci g = true then some (mj_set V h a (.inr (ci, va_up f g v))) else none
  | _ => none
def mj_ial (V : mj_V) (h : mj_H) (a : Nat) (j : Int32) : Option Int32 := (mj_ai V h 0 a).bind (fun q => if j < 0 ∨ q.1 ≤ j.toNatClampNeg then none else some (q.2 j.toNatClampNeg))
def mj_bal (V : mj_V) (h : mj_H) (a : Nat) (j : Int32) : Option Int32 := match mj_get V h a with
  | some (.inl (t, n, .inl f)) => if t = 1 ∨ t = 2 then (if j < 0 ∨ n ≤ j.toNatClampNeg then none else some (f j.toNatClampNeg)) else none
  | _ => none
def mj_aal (V : mj_V) (h : mj_H) (a : Nat) (j : Int32) : Option (Option Nat) := match mj_get V h a with
  | some (.inl (t, n, .inr (.inr (.inr (.inr f))))) => if 3 ≤ t ∧ t ≤ 6 then (if j < 0 ∨ n ≤ j.toNatClampNeg then none else some (f j.toNatClampNeg)) else none
  | _ => none
def mj_ias (V : mj_V) (h : mj_H) (a : Nat) (j x : Int32) : Option mj_H := match mj_get V h a with
  | some (.inl (t, n, .inl f)) => if t = 0 then (if j < 0 ∨ n ≤ j.toNatClampNeg then none else some (mj_set V h a (.inl (0, n, .inl (upd f j.toNatClampNeg x))))) else none
  | _ => none
def mj_bas (V : mj_V) (h : mj_H) (a : Nat) (j x : Int32) : Option mj_H := match mj_get V h a with
  | some (.inl (t, n, .inl f)) => if j < 0 ∨ n ≤ j.toNatClampNeg then none else (if t = 1 then some (mj_set V h a (.inl (1, n, .inl (upd f j.toNatClampNeg x.toInt8.toInt32)))) else (if t = 2 then some (mj_set V h a (.inl (2, n, .inl (upd f j.toNatClampNeg (x &&& 1))))) else none))
  | _ => none
def mj_aas (V : mj_V) (h : mj_H) (a : Nat) (j : Int32) (v : Nat) : Option mj_H := match mj_get V h a, mj_get V h v with
  | some (.inl (t, n, .inr (.inr (.inr (.inr f))))), some (.inr (ci, _)) => if 3 ≤ t ∧ t ≤ 6 ∧ mj_isY ci (mj_ac.getD (t - 3) 99) = true then (if j < 0 ∨ n ≤ j.toNatClampNeg then none else some (mj_set V h a (.inl (t, n, .inr (.inr (.inr (.inr (va_up f j.toNatClampNeg (some v))))))))) else none
  | _, _ => none
def mj_len (V : mj_V) (h : mj_H) (a : Nat) : Option Nat := if V.1 ≤ a then (match mj_get V h a with
  | some (.inl (t, x)) => if t < 7 then some x.1 else none
  | _ => none) else (V.2.2 a).map (fun q => q.1)
def mj_cls (V : mj_V) (h : mj_H) (a : Nat) : Option Nat := match mj_get V h a with
  | some (.inr (ci, _)) => some ci
  | _ => none
def mj_cpy (V : mj_V) (h : mj_H) (a0 : Nat) (sp : Int32) (a : Nat) (dp n : Int32) : Option mj_H := match mj_get V h a0, mj_get V h a with
  | some (.inl (t0, n0, .inl f)), some (.inl (t1, n1, .inl g)) => if t0 = 0 ∧ t1 = 0 ∧ ¬ sp < 0 ∧ ¬ dp < 0 ∧ ¬ n < 0 ∧ sp.toNatClampNeg + n.toNatClampNeg ≤ n0 ∧ dp.toNatClampNeg + n.toNatClampNeg ≤ n1 then some (mj_set V h a (.inl (0, n1, .inl (va_cpy f g sp.toNatClampNeg dp.toNatClampNeg n.toNatClampNeg)))) else none
  | _, _ => none
