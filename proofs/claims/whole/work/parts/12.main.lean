/-! What the small machine does, the machine does -/
def mj_Sim (l : Launch) (V : mj_V) (D : va_G) (tys : mj_T) (n : Nat) : Prop :=
  ∀ (mi pc : Nat) (loc : mj_L) (st : List Value) (h : mj_H) (v : Option Value) (h' : mj_H) (M : mj_M), mj_run V n mi pc loc st h = some (v, h') → mj_ms[mi]? = some M →
  ∀ (p : Program) (e : Env) (R : Room) (s : State) (m : MethodId) (args : Array Value) (below : List Frame) (meth : Method) (c : Code) (H : Heap) (locs : List Loc) (cells slots : Nat) (Q : State → Prop) (ls : Array Slot),
    p.tables.exec = Jvm.exec → c.code = M.2.2.1 → s.vm.findClass (mj_nm M.1) = some m.cls → (M.2.1.name = "<init>" → meth.name = "<init>") → c.maxLocals = M.2.2.2.1 → mj_X V D tys s → mj_HR V D tys h H → va_S (mj_D V) s.heap H locs → V.1 + h.2.length = s.heap.size + cells →
    M.2.2.2.2.2.2.1 ≤ R.frames → M.2.2.2.2.2.2.2 ≤ R.locals → cells + (h'.2.length - h.2.length) ≤ R.cells → slots + (h'.1 - h.1) ≤ R.slots → mj_LR M.2.2.2.2.2.1 loc ls M.2.2.2.1 →
    (∀ (i : Instr) (pc1 : Nat) (st1 : List Value) (H1 : Heap) (locs1 : List Loc) (ls1 : Array Slot), decode M.2.2.1 pc1 = .ok (i, 1) → mj_ret M.2.2.2.2.1 i st1 = some v → mj_HR V D tys h' H1 → va_S (mj_D V) s.heap H1 locs1 →
      W p l e R s m args below meth c H1 locs1 (cells + (h'.2.length - h.2.length)) (slots + (h'.1 - h.1)) Q (F0 m pc1 ls1 st1)) →
    W p l e R s m args below meth c H locs cells slots Q (F0 m pc ls st)
theorem mj_ms_own {k : Nat} {M : mj_M} (h : mj_ms[k]? = some M) : mj_nm M.1 = M.2.1.cls ∧ plainFor M.2.1 = true := by
  have h1 := List.all_eq_true.mp mj_ms_ok M (List.mem_of_getElem? h)
  simpa using h1
theorem mj_fe_ok {c : ByteArray} {pc : Nat} {q : Instr × Nat} (h : mj_fe c pc = some q) : decode c pc = .ok (q.1, q.2) := by
  unfold mj_fe at h
  split at h
  · rename_i q' hq
    cases h
    exact hq
  · cases h
theorem mj_ac2_loc {V : mj_V} {M : mj_M} {pc : Nat} {i : Instr} {len : Nat} {loc : mj_L} {st : List Value} {h : mj_H} {x : mj_N} (ha : mj_ac2 V M pc i len loc st h = some (.inl x)) : x.2.1 = loc := by
  unfold mj_ac2 at ha
  split at ha <;> repeat' (first | (split at ha) | (cases ha; done) | (simp only [mj_go, Option.map_eq_some_iff, reduceCtorEq, and_false, exists_false] at ha; done) | (simp only [mj_nx, Option.some.injEq, Sum.inl.injEq] at ha; subst ha; rfl) | (obtain ⟨_, _, ha⟩ := ha) | (simp only [Option.bind_eq_some_iff] at ha; obtain ⟨_, _, ha⟩ := ha) | (simp only [mj_go] at ha; split at ha <;> simp at ha; done))
/-- a method's contract out of the machine's run of it -/
theorem mj_met {l : Launch} {V : mj_V} {D : va_G} {tys : mj_T} {n : Nat} (ih : mj_Sim l V D tys n) {ck : Nat} {K : mj_M} {as : List Value} {l0 : mj_L} {h h1 : mj_H} {v : Option Value} (hK : mj_ms[ck]? = some K) (hent : mj_ent K.2.2.2.2.2.1 K.2.2.2.1 as = some l0) (hrun : mj_run V n ck 0 l0 [] h = some (v, h1)) : mj_Met l V D tys K as h v h1 := by
  refine va_MetF (cc := K.2.2.1) (maxL := K.2.2.2.1) (ret := K.2.2.2.2.1) (mj_ms_own hK).2 rfl ?_
  intro p e s m args below meth c s₁ B hml hv
  obtain ⟨rfl, hX, hR, hz⟩ := hv
  rw [lg_entry_eq]
  have hown : s.vm.findClass K.2.1.cls = some m.cls := findClass_of_methodNamed B.named
  refine ih ck 0 l0 [] h v h1 K hrun hK p e _ s m _ below meth c s.heap [] 0 0 _ _ B.exec B.bytes (by rw [(mj_ms_own hK).1]; exact hown) (fun q => (name_of_methodNamed B.named B.method).1.trans q) hml hX hR va_S.rf (by rw [hz, Nat.add_zero]) (Nat.le_refl _) (Nat.le_refl _) (by rw [Nat.zero_add]; exact Nat.le_refl _) (by rw [Nat.zero_add]; exact Nat.le_refl _) (mj_ent_LR hent) ?_
  intro i pc1 st1 H1 locs1 ls1 hd hr hR1 hS1
  rw [Nat.zero_add, Nat.zero_add]
  exact mj_retW B.exec B.bytes B.returns B.notSynchronized hd hr hR1 hS1
set_option maxHeartbeats 1000000 in
theorem mj_sim (l : Launch) (V : mj_V) (D : va_G) (tys : mj_T) : ∀ n : Nat, mj_Sim l V D tys n
  | 0 => by
    intro mi pc loc st h v h' M hr
    cases hr
  | n + 1 => by
    have ih := mj_sim l V D tys n
    intro mi pc loc st h v h' M hr hM p e R s m args below meth c H locs cells slots Q ls hx hb hown hmn hml hX hR hS hcx hfr hlo hce hsl hl hret
    simp only [mj_run, Option.bind_eq_some_iff] at hr
    obtain ⟨M', hM', q, hq, a, ha, hr⟩ := hr
    cases hM.symm.trans hM'
    have hdg := mj_fe_ok hq
    have hoc := (mj_ms_own hM).1
    have hlsz : ls.size = M.2.2.2.1 := hl.2.1.1
    split at hr
    · rename_i x
      have hmono := mj_run_mono hr
      have hmono2 := mj_act_mono ha
      have e1 : cells + (x.2.2.2.2.length - h.2.length) + (h'.2.length - x.2.2.2.2.length) = cells + (h'.2.length - h.2.length) := by omega
      have e2 : slots + (x.2.2.2.1 - h.1) + (h'.1 - x.2.2.2.1) = slots + (h'.1 - h.1) := by omega
      unfold mj_act at ha
      split at ha
      · rename_i a' h1
        rw [Option.some.injEq] at ha
        subst ha
        obtain ⟨x1, x2, x3, x4⟩ := x
        have h4 : x4 = h := mj_ac1_h h1
        subst h4
        refine (mj_sim1 hx hb hdg h1 hl (fun ls' hl' => ?_)).2
        exact ih mi x1 x2 x3 x4 v h' M hr hM p e R s m args below meth c H locs cells slots Q ls' hx hb hown hmn hml hX hR hS hcx hfr hlo hce hsl hl' hret
      · obtain ⟨x1, x2, x3, x4⟩ := x
        simp only at hr hmono hmono2 e1 e2
        have hloc : x2 = loc := mj_ac2_loc ha
        subst hloc
        refine (mj_sim2 hx hb hown hmn hoc (by rw [hml, hlsz]) hX hR hS hcx hfr hlo (by omega) (by omega) hdg ha (fun H1 locs1 hR1 hS1 => ?_)).2
        refine ih mi x1 x2 x3 x4 v h' M hr hM p e R s m args below meth c H1 locs1 _ _ Q ls hx hb hown hmn hml hX hR1 hS1 (by omega) hfr hlo (by omega) (by omega) hl ?_
        intro i pc1 st1 H2 locs2 ls1 g1 g2 g3 g4
        rw [e1, e2]
        exact hret i pc1 st1 H2 locs2 ls1 g1 g2 g3 g4
    · rename_i y
      simp only [Option.bind_eq_some_iff] at hr
      obtain ⟨K, hK, hr⟩ := hr
      split at hr
      · rename_i hrk
        simp only [Option.bind_eq_some_iff] at hr
        obtain ⟨l0, hl0, r, hr0, hr⟩ := hr
        obtain ⟨v1, h1⟩ := r
        obtain ⟨ck, as, rest⟩ := y
        have hm1 := mj_run_mono hr0
        have hm2 := mj_run_mono hr
        simp only at hr hr0 hl0 hK hrk hm1 hm2
        unfold mj_act at ha
        split at ha
        · rename_i a' ha1
          rw [Option.some.injEq] at ha
          subst ha
          obtain ⟨x, hx'⟩ := mj_ac1_inl ha1
          cases hx'
        · refine mj_Wsize fun hz => ?_
          have hsz := mj_size (tys := tys) hR hS hX.2.2.2.1 hcx hz
          obtain ⟨hlen, hrun⟩ := mj_call (p := p) (e := e) (R := R) (args := args) (below := below) (meth := meth) (cells := cells) (slots := slots) hx hb hown (by rw [hml, hlsz]) hX hR hS hsz hfr hlo (by omega) (by omega) hdg ha hK hrk.2 hrk.1 (mj_met ih hK hl0 hr0)
          rw [hlen] at hr
          refine mj_callW hrun hS (fun H1 locs1 hR1 hS1 => ?_)
          refine ih mi (pc + 3) loc (v1.toList ++ rest) h1 v h' M hr hM p e R s m args below meth c H1 locs1 _ _ Q ls hx hb hown hmn hml hX hR1 hS1 (by omega) hfr hlo (by omega) (by omega) hl ?_
          intro i pc1 st1 H2 locs2 ls1 g1 g2 g3 g4
          rw [show cells + (h1.2.length - h.2.length) + (h'.2.length - h1.2.length) = cells + (h'.2.length - h.2.length) by omega, show slots + (h1.1 - h.1) + (h'.1 - h1.1) = slots + (h'.1 - h.1) by omega]
          exact hret i pc1 st1 H2 locs2 ls1 g1 g2 g3 g4
      · cases hr
    · rename_i w
      cases hr
      unfold mj_act at ha
      split at ha
      · rename_i a' ha1
        rw [Option.some.injEq] at ha
        subst ha
        obtain ⟨x, hx'⟩ := mj_ac1_inl ha1
        cases hx'
      · obtain ⟨h1, h2⟩ := mj_noret ha
        rw [h1] at hdg
        have := hret q.1 pc st H locs ls hdg h2 hR hS
        simpa only [Nat.sub_self, Nat.add_zero] using this
