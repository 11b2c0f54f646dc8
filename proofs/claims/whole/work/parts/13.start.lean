/-! THE CLAIM OUT OF ONE WALK OF THE LAW'S BODY. Your part is whole_start (and what it stands on); all else here is the same for every law, but numbers. -/
def R_law : String := "SignedPagesLaw"
def lw_P (b : Addr) (xs : List Int32) (args : Array Value) (s : State) : Prop := args = #[.ref b] ∧ s.IntsAt b xs ∧ xs.length ≤ 3072 ∧ (Jvm.Cond.and given_1 narrow_1).before args s = true
def lw_Q (_ : Array Value) (s : State) (o : Outcome) (t : State) : Prop := o = .returned (some (.int 1)) ∧ Framed s o t [] 600000 7302250
def lw_Z (below : List Frame) (a : Array Value) (s : State) : State → Prop := fun t => ∃ o, t.status = .running ∧ Ended t below o ∧ lw_Q a s o t
/-- the law's own end, with 1 on the stack, nothing written that was there before, its room as the claim has it -/
theorem lw_ret {p : Program} {l : Launch} {e : Env} {s : State} {m : MethodId} {below : List Frame} {meth : Method} {c : Code} {b : Nat} (hx : p.tables.exec = Jvm.exec) (hb : c.code = code) (hr : meth.sig.returnType = ret) (hlocks : meth.locks = false) {pc : Nat} {H : Heap} {ls : Array Slot} (hdg : decode code pc = .ok (.ireturn, 1)) : W p l e room_1 s m #[Value.ref b] below meth c H [] 600000 7302250 (lw_Z below #[Value.ref b] s) (F0 m pc ls [.int 1]) := by
  intro T hT X
  obtain ⟨fs, hret, hrun, hended, hW, hframe⟩ := X.leave (v := some (.int 1)) (hlocks := hlocks) (fun h => by rw [hr] at h; cases h)
  have hmeth' : T.vm.method? m = some meth := X.method'
  refine ⟨T.setFrames fs, ?_, .returned (some (.int 1)), hrun, hended, rfl, ⟨_, rfl⟩, hW, hframe⟩
  jvm_step X.here [X.here.top, hx, hb, hdg, hmeth', hr, ret, narrow_b1]
  (try refine ⟨rfl, ?_⟩); (try refine ⟨rfl, ?_⟩)
  first | (intro acts; rw [hret _ acts rfl rfl rfl]) | rw [hret _ _ rfl rfl rfl]
  exact Steps.refl _
/-- what holds at the law's entry: the machine, the code, the tables' words (any of lw_tbl by 'hts w (by decide +kernel)'), the script of L ints xs at the cell b, what the Statement gives of the start (any of its parts by flat_of_before) -/
def lw_At (p : Program) (s : State) (m : MethodId) (meth : Method) (c : Code) (b L : Nat) (xs : Nat → Int32) : Prop :=
  p.tables.exec = Jvm.exec ∧ c.code = code ∧ meth.sig.returnType = ret ∧ c.maxLocals = 4 ∧ s.vm.findClass R_law = some m.cls ∧ (∀ w ∈ lw_tbl, w.before #[Value.ref b] s = true) ∧ va_X b L xs s s.heap ∧ b < s.heap.size ∧ meth.locks = false ∧ (Jvm.Cond.and given_1 narrow_1).before #[Value.ref b] s = true
/-! from the small machine's run of the law to the law's start -/
def mj_rk (j : Nat) : Int32 := if j = 0 then -9 else if j = 1 then 0 else if j = 2 then 3 else if j = 3 then 4 else if j = 4 then 2 else 1
def mj_kr (j : Nat) : Int32 := if j = 0 then 1 else if j = 1 then 5 else if j = 2 then 4 else if j = 3 then 2 else 3
/-- what the law's run finds: its script, the two static arrays -/
def mj_start (V : mj_V) (b L : Nat) (xs : Nat → Int32) : Prop := V.2.2 b = some (L, xs) ∧ V.2.2 (V.2.1 0) = some (6, mj_rk) ∧ V.2.2 (V.2.1 1) = some (5, mj_kr) ∧ b < V.1 ∧ V.2.1 0 < V.1 ∧ V.2.1 1 < V.1
def mj_law : Prop := ∀ (V : mj_V) (b L : Nat) (xs : Nat → Int32), L ≤ 3072 → mj_start V b L xs → ∃ (n : Nat) (h' : mj_H), mj_run V n 218 0 [some (.ref b), none, none, none] [] (0, []) = some (some (.int 1), h') ∧ h'.2.length ≤ 600000 ∧ h'.1 ≤ 7302250
theorem mj_isArr {s : State} {cA : ClassId} {kA : Class} {comp : ClassId} {ty : FieldType} (h1 : s.vm.classes[cA]? = some kA) (h2 : kA.kind = .array comp ty) : ArrOfT s cA ty := fun _ _ => ⟨fun _ h => (by cases h), kA, h1, comp, h2⟩
theorem mj_prim {s : State} {args : Array Value} {ty : FieldType} (hp : ty = .int ∨ ty = .byte ∨ ty = .boolean) (h : (Jvm.Cond.arrayClass ty).before args s = true) : ∃ cA : ClassId, ArrOfT s cA ty ∧ va_RA s cA ty := by
  obtain ⟨cA, kA, comp, h1, h2, h3⟩ := Cond.arrayClass_spec h
  exact ⟨cA, mj_isArr h2 h3, by rcases hp with rfl | rfl | rfl <;> exact h1⟩
theorem mj_over {s : State} {args : Array Value} {C : String} (h : (Jvm.Cond.arrayOver (.object C)).before args s = true) : ∃ cA : ClassId, ArrOfT s cA (.object C) ∧ va_RA s cA (.object C) := by
  obtain ⟨comp, c, k, h1, h2, h3, h4, h5⟩ := Cond.arrayOver_spec h
  exact ⟨c, mj_isArr h3 h4, k, comp, h3, h4, h1, h5⟩
set_option maxRecDepth 100000 in
theorem mj_lawM : mj_ms[218]? = some (15, yL_law, cL_law, 4, some .boolean, [], 6, 148) := by rfl
def mj_fn : List Jvm.Cond := flatC (Jvm.Cond.and given_1 narrow_1)
theorem mj_cx_in : ∀ q ∈ mj_cx, Jvm.Cond.not (Jvm.Cond.castable (mj_nm q.1) (mj_nm q.2)) ∈ mj_fn := by
  have h : mj_cx.all (fun q => decide (Jvm.Cond.not (Jvm.Cond.castable (mj_nm q.1) (mj_nm q.2)) ∈ mj_fn)) = true := by decide +kernel
  intro q hq
  simpa using List.all_eq_true.mp h q hq
theorem mj_static_in : ∀ k, k < 2 → Jvm.Cond.arrayOf (.static "SignedPages" (mj_sn.getD k "") "[I") .int ∈ mj_fn ∧ Jvm.Cond.eq (.length (.static "SignedPages" (mj_sn.getD k "") "[I")) (.int (if k = 0 then 6 else 5)) ∈ mj_fn ∧ Jvm.Cond.not (.eq (.arg 0) (.static "SignedPages" (mj_sn.getD k "") "[I")) ∈ mj_fn ∧ Jvm.Cond.laysStatic "SignedPages" (mj_sn.getD k "") "[I" ∈ lw_tbl := by decide +kernel
theorem mj_rk_in : ∀ j, j < 6 → Jvm.Cond.eq (.elem (.static "SignedPages" "ROLE_OF_KIND" "[I") (.int (Int32.ofNat j))) (.int (mj_rk j)) ∈ mj_fn := by decide +kernel
theorem mj_kr_in : ∀ j, j < 5 → Jvm.Cond.eq (.elem (.static "SignedPages" "KIND_OF_ROLE" "[I") (.int (Int32.ofNat j))) (.int (mj_kr j)) ∈ mj_fn := by decide +kernel
theorem mj_ne_arg {args : Array Value} {s : State} {t : Term} {b a : Nat} (h : (Jvm.Cond.not (.eq (.arg 0) t)).before args s = true) (hb : (Term.arg 0).eval args s none [] s = some (.ref b)) (ht : t.eval args s none [] s = some (.ref a)) : a ≠ b := by
  intro e
  subst e
  simp [Cond.before, Cond.holds, Cond.value, hb, ht] at h
theorem mj_known {s : State} {args : Array Value} (hts : ∀ w ∈ lw_tbl, w.before args s = true) : ∃ D : va_G, ∀ (k : Nat) (q : vw_C), mj_cl[k]? = some q → u_Kn s q.1 q.2.1 q.2.2 (D.1 k) (D.2 k) := by
  have h : ∀ k : Nat, ∃ x : ClassId × (Nat → Nat), k < 12 → u_Kn s (mj_c k).1 (mj_c k).2.1 (mj_c k).2.2 x.1 x.2 := by
    intro k
    by_cases hk : k < 12
    · obtain ⟨c1, c2, c3, c4, c5, c6, c7⟩ := mj_cf hk
      obtain ⟨cC, iS, hKn⟩ := u_known (C := (mj_c k).1) (T := (mj_c k).2.1) (N := (mj_c k).2.2) hts c2 (hts (.instantiable (mj_c k).1 (mj_c k).2.2) (by rw [c7]; exact c5))
      exact ⟨(cC, iS), fun _ => hKn⟩
    · exact ⟨(0, fun _ => 0), fun q => absurd q hk⟩
  refine ⟨(fun k => (Classical.choose (h k)).1, fun k => (Classical.choose (h k)).2), fun k q hq => ?_⟩
  have hk : k < 12 := (List.getElem?_eq_some_iff.mp hq).1
  have e1 : q = mj_c k := Option.some.inj (hq.symm.trans (mj_cf hk).1)
  rw [e1]
  exact Classical.choose_spec (h k) hk
theorem mj_types {s : State} {args : Array Value} (hts : ∀ w ∈ lw_tbl, w.before args s = true) : ∃ tys : mj_T, tys.map (fun q => q.2) = mj_at ∧ ∀ (k : Nat) (q : ClassId × FieldType), tys[k]? = some q → ArrOfT s q.1 q.2 ∧ va_RA s q.1 q.2 := by
  obtain ⟨a0, a1, a2, a3⟩ := mj_aw_ok
  have hov : ∀ k, k < 4 → ∃ cA : ClassId, ArrOfT s cA (mj_at.getD (k + 3) .int) ∧ va_RA s cA (mj_at.getD (k + 3) .int) := by
    intro k hk
    have h4 := List.all_eq_true.mp a3 k (List.mem_range.mpr hk)
    simp only [Bool.and_eq_true, decide_eq_true_eq] at h4
    rw [h4.2.1]
    exact mj_over (hts _ (mj_wd_in h4.1))
  obtain ⟨c0, p0⟩ := mj_prim (Or.inl rfl) (hts _ (mj_wd_in a0))
  obtain ⟨c1, p1⟩ := mj_prim (Or.inr (Or.inl rfl)) (hts _ (mj_wd_in a1))
  obtain ⟨c2, p2⟩ := mj_prim (Or.inr (Or.inr rfl)) (hts _ (mj_wd_in a2))
  obtain ⟨c3, p3⟩ := hov 0 (by omega)
  obtain ⟨c4, p4⟩ := hov 1 (by omega)
  obtain ⟨c5, p5⟩ := hov 2 (by omega)
  obtain ⟨c6, p6⟩ := hov 3 (by omega)
  refine ⟨[(c0, mj_at.getD 0 .int), (c1, mj_at.getD 1 .int), (c2, mj_at.getD 2 .int), (c3, mj_at.getD 3 .int), (c4, mj_at.getD 4 .int), (c5, mj_at.getD 5 .int), (c6, mj_at.getD 6 .int)], rfl, fun k q hq => ?_⟩
  match k, hq with
  | 0, hq => cases hq; exact p0
  | 1, hq => cases hq; exact p1
  | 2, hq => cases hq; exact p2
  | 3, hq => cases hq; exact p3
  | 4, hq => cases hq; exact p4
  | 5, hq => cases hq; exact p5
  | 6, hq => cases hq; exact p6
  | k + 7, hq => simp at hq
theorem mj_retv {i : Instr} {st : List Value} (h : mj_ret (some .boolean) i st = some (some (.int 1))) : i = .ireturn ∧ st = [.int 1] := by
  unfold mj_ret at h
  split at h
  · cases h
  · cases h
    exact ⟨rfl, rfl⟩
  · split at h
    · cases h
      exact ⟨rfl, rfl⟩
    · cases h
  · cases h
  · cases h
  · cases h
  · cases h
set_option maxHeartbeats 1000000 in
theorem mj_whole (hlaw : mj_law) {p : Program} {e : Env} {s : State} {m : MethodId} {below : List Frame} {meth : Method} {c : Code} (l : Launch) {b L : Nat} {xs : Nat → Int32} (hL : L ≤ 3072) (C0 : lw_At p s m meth c b L xs) : W p l e room_1 s m #[Value.ref b] below meth c s.heap [] 0 0 (lw_Z below #[Value.ref b] s) (entryFrame m ([Value.ref b] : List Value).toArray 4) := by
  obtain ⟨hx, hb, hr, hml, hown, hts, hXs, hbl, hlocks, hgv⟩ := C0
  have hfl : ∀ w ∈ mj_fn, w.before #[Value.ref b] s = true := flat_of_before _ hgv
  obtain ⟨D, hD⟩ := mj_known hts
  obtain ⟨tys, ht1, ht2⟩ := mj_types hts
  obtain ⟨z1, z2, z3, z4⟩ := mj_static_in 0 (by omega)
  obtain ⟨y1, y2, y3, y4⟩ := mj_static_in 1 (by omega)
  have hA : ∀ a : Nat, a < s.heap.size → ¬ s.heap.size ≤ a := fun a q => Nat.not_le.mpr q
  obtain ⟨t0, e0, T0⟩ := va_Tof (N := 6) (f := fun j => .int (mj_rk j)) (A := fun q => s.heap.size ≤ q) (by decide) (hfl _ z1) (va_eqt (hfl _ z2)) (fun j hj => va_eqt (hfl _ (mj_rk_in j hj))) hA
  obtain ⟨t1, e1, T1⟩ := va_Tof (N := 5) (f := fun j => .int (mj_kr j)) (A := fun q => s.heap.size ≤ q) (by decide) (hfl _ y1) (va_eqt (hfl _ y2)) (fun j hj => va_eqt (hfl _ (mj_kr_in j hj))) hA
  have n0 : t0 ≠ b := mj_ne_arg (hfl _ z3) rfl e0
  have n1 : t1 ≠ b := mj_ne_arg (hfl _ y3) rfl e1
  have n2 : t1 ≠ t0 := by
    intro q
    subst q
    obtain ⟨cell, g1, -, -, -, g2, -⟩ := T0
    obtain ⟨cell', k1, -, -, -, k2, -⟩ := T1
    cases g1.symm.trans k1
    rw [g2] at k2
    exact absurd k2 (by decide)
  have lt0 : t0 < s.heap.size := by
    obtain ⟨cell, g1, -⟩ := T0
    exact (Array.getElem?_eq_some_iff.mp g1).1
  have lt1 : t1 < s.heap.size := by
    obtain ⟨cell, g1, -⟩ := T1
    exact (Array.getElem?_eq_some_iff.mp g1).1
  have hini : (Jvm.Cond.initialized "SignedPages").before #[Value.ref b] s = true := hts _ (mj_cf (ci := 10) (by omega)).2.2.2.2.2.1
  obtain ⟨V, hV⟩ : ∃ V : mj_V, V = (s.heap.size, (fun k => if k = 0 then t0 else t1), (fun a => if a = b then some (L, xs) else if a = t0 then some (6, mj_rk) else if a = t1 then some (5, mj_kr) else none)) := ⟨_, rfl⟩
  have hV1 : V.1 = s.heap.size := by rw [hV]
  have hst : mj_start V b L xs := by
    rw [hV]
    refine ⟨?_, ?_, ?_, hbl, lt0, lt1⟩
    · simp
    · simp [n0]
    · simp [n1, n2]
  have hDV : mj_D V = fun q => s.heap.size ≤ q := by funext q; rw [mj_D, hV1]
  have hX : mj_X V D tys s := by
    refine ⟨fun a w hw hg => mj_word_move (State.WarmedH.refl s) hg (hts w hw), ⟨hD, ht2⟩, ht1, by rw [hV1]; exact Nat.le_refl _, fun k hk => ?_, fun a n f ha => ?_, fun q hq => va_Nc.of (hfl _ (mj_cx_in q hq))⟩
    · rw [hDV]
      rcases (show k = 0 ∨ k = 1 by omega) with rfl | rfl
      · have : V.2.1 0 = t0 := by rw [hV]; rfl
        rw [this]
        exact va_Zof (hts _ z4) hini e0 hA
      · have : V.2.1 1 = t1 := by rw [hV]; rfl
        rw [this]
        exact va_Zof (hts _ y4) hini e1 hA
    · rw [hDV, hV1]
      rw [hV] at ha
      simp only at ha
      split at ha
      · rename_i ea
        cases ha
        subst ea
        obtain ⟨scr, g1, g2, g3, g4, g5⟩ := hXs
        exact ⟨hbl, scr, g1, g2, g3, Nat.le_of_eq g4.symm, congrArg (fun z : Nat => z.toInt32) g4, g5, hA a hbl⟩
      · split at ha
        · rename_i ea
          cases ha
          subst ea
          exact ⟨lt0, T0⟩
        · split at ha
          · rename_i ea
            cases ha
            subst ea
            exact ⟨lt1, T1⟩
          · cases ha
  obtain ⟨n, h', hrun, hb1, hb2⟩ := hlaw V b L xs hL hst
  rw [lg_entry_eq]
  refine mj_sim l V D tys n 218 0 _ [] (0, []) (some (.int 1)) h' _ hrun mj_lawM p e room_1 s m _ below meth c s.heap [] 0 0 _ _ hx hb hown (fun q => absurd q (by decide)) hml hX (fun k q hq => by simp [mj_ws] at hq) va_S.rf (by rw [hV1]; rfl) (by decide) (by decide) ?_ ?_ (mj_ent_LR (as := [.ref b]) rfl) ?_
  · show 0 + (h'.2.length - 0) ≤ 600000
    omega
  · show 0 + (h'.1 - 0) ≤ 7302250
    omega
  · intro i pc1 st1 H1 locs1 ls1 g1 g2 g3 g4
    obtain ⟨rfl, rfl⟩ := mj_retv g2
    refine va_forget (fun q hq => ?_) (W.widen (k := 600000) (n := 7302250) ?_ ?_ (lw_ret hx hb hr hlocks g1))
    · have := g4.2.2 q hq
      rw [hDV] at this
      exact this
    · show 0 + (h'.2.length - 0) ≤ 600000
      omega
    · show 0 + (h'.1 - 0) ≤ 7302250
      omega
