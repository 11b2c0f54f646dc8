/-! A call: the callee's contract gives the caller's next step -/
theorem mj_m_of {k : Nat} {K : mj_M} (h : mj_ms[k]? = some K) : mj_m k = K := by
  rw [mj_m, List.getD_eq_getElem?_getD, h]
  rfl
theorem mj_yok_of {y : MethodName} {n : Nat} (h : mj_yok y n = true) : (y.cls ≠ "java/lang/invoke/MethodHandle" ∧ y.cls ≠ "java/lang/invoke/VarHandle") ∧ ∀ sig, parseMethodDescriptor y.desc = some sig → n = sig.parameters.length := by
  simp only [mj_yok, Bool.and_eq_true, decide_eq_true_eq] at h
  refine ⟨⟨h.1, h.2.1⟩, fun sig hs => ?_⟩
  have h2 := h.2.2
  rw [hs] at h2
  exact (Option.some.inj h2).symm
theorem mj_sl_spec {c i k n : Nat} {K : mj_M} (h : mj_sl_ c i = some (k, n)) (hK : mj_ms[k]? = some K) : Jvm.Cond.methodLink (mj_nm c) i K.2.1 ∈ lw_tbl ∧ Jvm.Cond.static K.2.1 ∈ lw_tbl ∧ Jvm.Cond.initialized K.2.1.cls ∈ lw_tbl ∧ mj_yok K.2.1 n = true := by
  unfold mj_sl_ at h
  obtain ⟨q, hq, he⟩ := Option.map_eq_some_iff.mp h
  cases he
  have h1 := List.all_eq_true.mp mj_SL_ok q (List.mem_of_find?_eq_some hq)
  have h2 := List.find?_some hq
  simp only [Bool.and_eq_true, beq_iff_eq] at h1 h2
  obtain ⟨rfl, rfl⟩ := h2
  rw [mj_m_of hK] at h1
  exact ⟨mj_wd_in h1.1, mj_wd_in h1.2.1, mj_wd_in h1.2.2.1, h1.2.2.2.1⟩
theorem mj_il_spec {c i k n : Nat} {K : mj_M} (h : mj_il c i = some (k, n)) (hK : mj_ms[k]? = some K) : Jvm.Cond.methodLink (mj_nm c) i K.2.1 ∈ lw_tbl ∧ Jvm.Cond.instanceMethod K.2.1 ∈ lw_tbl ∧ Jvm.Cond.initialized K.2.1.cls ∈ lw_tbl ∧ mj_yok K.2.1 n = true ∧ K.2.1.name = "<init>" ∧ K.2.2.2.2.1 = none := by
  unfold mj_il at h
  obtain ⟨q, hq, he⟩ := Option.map_eq_some_iff.mp h
  cases he
  have h1 := List.all_eq_true.mp mj_IL_ok q (List.mem_of_find?_eq_some hq)
  have h2 := List.find?_some hq
  simp only [Bool.and_eq_true, beq_iff_eq, decide_eq_true_eq] at h1 h2
  obtain ⟨rfl, rfl⟩ := h2
  rw [mj_m_of hK] at h1
  exact ⟨mj_wd_in h1.1, mj_wd_in h1.2.1, mj_wd_in h1.2.2.1, h1.2.2.2.1, h1.2.2.2.2.2.1, h1.2.2.2.2.2.2⟩
theorem mj_nl_spec {c i k n : Nat} {K : mj_M} (h : mj_nl c i = some (k, n)) (hK : mj_ms[k]? = some K) : Jvm.Cond.methodLinkNest (mj_nm c) i K.2.1 "SignedPages" ∈ lw_tbl ∧ Jvm.Cond.instanceMethod K.2.1 ∈ lw_tbl ∧ Jvm.Cond.initialized K.2.1.cls ∈ lw_tbl ∧ mj_yok K.2.1 n = true ∧ K.2.1.name = "<init>" ∧ K.2.2.2.2.1 = none := by
  unfold mj_nl at h
  obtain ⟨q, hq, he⟩ := Option.map_eq_some_iff.mp h
  cases he
  have h1 := List.all_eq_true.mp mj_NL_ok q (List.mem_of_find?_eq_some hq)
  have h2 := List.find?_some hq
  simp only [Bool.and_eq_true, beq_iff_eq, decide_eq_true_eq] at h1 h2
  obtain ⟨rfl, rfl⟩ := h2
  rw [mj_m_of hK] at h1
  exact ⟨mj_wd_in h1.1, mj_wd_in h1.2.1, mj_wd_in h1.2.2.1, h1.2.2.2.1, h1.2.2.2.2.2.1, h1.2.2.2.2.2.2⟩
theorem mj_vl_spec {c i ci k n : Nat} {K : mj_M} (h : mj_vl c i ci = some (k, n)) (hK : mj_ms[k]? = some K) : Jvm.Cond.methodLink (mj_nm c) i K.2.1 ∈ lw_tbl ∧ Jvm.Cond.instanceMethod K.2.1 ∈ lw_tbl ∧ Jvm.Cond.selects (mj_nm ci) K.2.1 K.2.1 ∈ lw_tbl ∧ Jvm.Cond.initialized K.2.1.cls ∈ lw_tbl ∧ mj_yok K.2.1 n = true ∧ ci < 12 := by
  unfold mj_vl at h
  obtain ⟨q, hq, he⟩ := Option.map_eq_some_iff.mp h
  cases he
  have h1 := List.all_eq_true.mp mj_VL_ok q (List.mem_of_find?_eq_some hq)
  have h2 := List.find?_some hq
  simp only [Bool.and_eq_true, beq_iff_eq, decide_eq_true_eq] at h1 h2
  obtain ⟨rfl, rfl, rfl⟩ := h2
  rw [mj_m_of hK] at h1
  exact ⟨mj_wd_in h1.1, mj_wd_in h1.2.1, mj_wd_in h1.2.2.1, mj_wd_in h1.2.2.2.1, h1.2.2.2.2.1, h1.2.2.2.2.2.2⟩
theorem mj_ul_spec {c i ci k n : Nat} {K : mj_M} (h : mj_ul c i ci = some (k, n)) (hK : mj_ms[k]? = some K) : ∃ x : MethodName, Jvm.Cond.methodLink (mj_nm c) i x ∈ lw_tbl ∧ Jvm.Cond.sameMethod x.cls x.cls x.name x.desc ∈ lw_tbl ∧ Jvm.Cond.selects (mj_nm ci) x K.2.1 ∈ lw_tbl ∧ Jvm.Cond.instanceMethod K.2.1 ∈ lw_tbl ∧ Jvm.Cond.initialized K.2.1.cls ∈ lw_tbl ∧ mj_yok x n = true ∧ ci < 12 ∧ Jvm.Cond.instanceMethod x ∈ lw_tbl ∧ ∃ X : mj_M, X.2.1 = x ∧ mj_cok X := by
  unfold mj_ul at h
  obtain ⟨q, hq, he⟩ := Option.map_eq_some_iff.mp h
  cases he
  have h1 := List.all_eq_true.mp mj_UL_ok q (List.mem_of_find?_eq_some hq)
  have h2 := List.find?_some hq
  simp only [Bool.and_eq_true, beq_iff_eq, decide_eq_true_eq] at h1 h2
  obtain ⟨rfl, rfl, rfl⟩ := h2
  rw [mj_m_of hK] at h1
  obtain ⟨a1, a2, a3, a4, a5, a6, a7, a8, a9, a10, a11⟩ := h1
  obtain ⟨r, -, hr⟩ := List.any_eq_true.mp a9
  refine ⟨(mj_m q.2.2.2.2.2.1).2.1, mj_wd_in a1, mj_wd_in a2, mj_wd_in a3, mj_wd_in a4, mj_wd_in a5, a6, a11, mj_wd_in hr, mj_m q.2.2.2.2.2.1, rfl, ?_⟩
  have hl : q.2.2.2.2.2.1 < mj_ms.length := by rw [mj_ms_len]; omega
  exact mj_cokAll q.2.2.2.2.2.1 _ (by rw [mj_m, List.getD_eq_getElem?_getD, List.getElem?_eq_getElem hl]; rfl) a8
theorem mj_nocall {V : mj_V} {M : mj_M} {pc : Nat} {i : Instr} {len : Nat} {loc : mj_L} {st : List Value} {h : mj_H} {y : Nat × List Value × List Value} (ha : mj_ac2 V M pc i len loc st h = some (.inr (.inl y))) : (∃ k, i = .invokestatic k) ∨ (∃ k, i = .invokespecial k) ∨ ∃ k, i = .invokevirtual k := by
  unfold mj_ac2 at ha
  split at ha <;> first | exact Or.inl ⟨_, rfl⟩ | exact Or.inr (Or.inl ⟨_, rfl⟩) | exact Or.inr (Or.inr ⟨_, rfl⟩) | (exfalso; repeat' (first | (split at ha) | (cases ha; done) | (simp only [mj_nx, Option.some.injEq, reduceCtorEq] at ha; done) | (simp at ha; done) | (obtain ⟨_, _, ha⟩ := ha) | (simp only [Option.bind_eq_some_iff] at ha; obtain ⟨_, _, ha⟩ := ha)))
theorem mj_noret {V : mj_V} {M : mj_M} {pc : Nat} {i : Instr} {len : Nat} {loc : mj_L} {st : List Value} {h : mj_H} {v : Option Value} (ha : mj_ac2 V M pc i len loc st h = some (.inr (.inr v))) : len = 1 ∧ mj_ret M.2.2.2.2.1 i st = some v := by
  unfold mj_ac2 at ha
  split at ha <;> repeat' (first | (split at ha) | (cases ha; done) | (simp only [mj_nx, Option.some.injEq, reduceCtorEq] at ha; done) | (simp only [Option.map_eq_some_iff, Sum.inr.injEq] at ha; obtain ⟨w, hw, rfl⟩ := ha; exact ⟨by assumption, hw⟩) | (simp at ha; done) | (obtain ⟨_, _, ha⟩ := ha) | (simp only [Option.bind_eq_some_iff] at ha; obtain ⟨_, _, ha⟩ := ha) | (unfold mj_go at ha; split at ha <;> simp at ha; done))
section MJ4
variable {p : Program} {l : Launch} {e : Env} {R : Room} {s : State} {m : MethodId} {args : Array Value} {below : List Frame} {meth : Method} {c : Code} {H : Heap} {locs : List Loc} {cells slots : Nat} {Q : State → Prop}
variable {cc : ByteArray} {pc len ck : Nat} {ls : Array Slot} {st rest as : List Value} {loc : mj_L} {h h1 : mj_H} {V : mj_V} {D : va_G} {tys : mj_T} {M K : mj_M} {v : Option Value}
theorem mj_take_ref {st : List Value} {n b : Nat} (h : st[n]? = some (.ref b)) : (st.take (n + 1)).reverse = Value.ref b :: (st.take n).reverse ∧ st = ((st.take n).reverse).reverse ++ Value.ref b :: st.drop (n + 1) ∧ ((st.take n).reverse).length = n := by
  have hl : n < st.length := (List.getElem?_eq_some_iff.mp h).1
  have hg : st[n] = .ref b := (List.getElem?_eq_some_iff.mp h).2
  refine ⟨?_, ?_, ?_⟩
  · rw [List.take_succ, h]
    simp
  · rw [List.reverse_reverse, ← hg, ← List.drop_eq_getElem_cons hl, List.take_append_drop]
  · rw [List.length_reverse, List.length_take]
    omega
theorem mj_call (hx : p.tables.exec = Jvm.exec) (hb : c.code = cc) (hown : s.vm.findClass (mj_nm M.1) = some m.cls) (hml : c.maxLocals = ls.size) (hX : mj_X V D tys s) (hR : mj_HR V D tys h H) (hS : va_S (mj_D V) s.heap H locs) (hz : H.size = V.1 + h.2.length) (hfr : M.2.2.2.2.2.2.1 ≤ R.frames) (hlo : M.2.2.2.2.2.2.2 ≤ R.locals)
    (hce : cells + (h1.2.length - h.2.length) ≤ R.cells) (hsl : slots + (h1.1 - h.1) ≤ R.slots) {i : Instr} (hdg : decode cc pc = .ok (i, len)) (ha : mj_ac2 V M pc i len loc st h = some (.inr (.inl (ck, as, rest)))) (hK : mj_ms[ck]? = some K) (hck : ck < 218) (hrok : mj_rok M K rest = true) (hM : mj_Met l V D tys K as h v h1) :
    len = 3 ∧ va_Run p l e R s m args below meth c H locs cells slots (h1.2.length - h.2.length) (h1.1 - h.1) (F0 m pc ls st) rest (mj_Qc V D tys v h1 as.toArray) (mj_D V) := by
  simp only [mj_rok, Bool.and_eq_true, decide_eq_true_eq] at hrok
  obtain ⟨r1, r2, r3⟩ := hrok
  have hcw : mj_kw K ∈ lw_tbl := mj_cokAll ck K hK hck
  have hws : ∀ w ∈ [mj_kw K], ∀ (a' : Array Value) (U : State), s.WarmedH U.vm → w.before a' U = true := fun w hw a' U hW => by
    rw [List.mem_singleton.mp hw]
    exact mj_word_move hW rfl (hX.1 args _ hcw rfl)
  have hPc : ∀ U : State, U.heap = H → s.WarmedH U.vm → va_Pc as (mj_B V D tys h) as.toArray U := fun U hU hW => ⟨rfl, hX.move hW (by rw [hU]; exact hS), by rw [hU]; exact hR, by rw [hU]; exact hz⟩
  have S0 : CallFix p m c cc ls.size s args [] (mj_nm M.1) := ⟨hx, hb, hml, hown, fun _ hw => by cases hw⟩
  have hfr' : (mj_rm K h h1).frames + 1 ≤ R.frames := Nat.le_trans r1 hfr
  have hlo' : 8 + (K.2.2.2.1 + 11) + (mj_rm K h h1).locals ≤ R.locals := Nat.le_trans r2 hlo
  have hcat : ((rest.map fun v => v.category).sum) ≤ 8 := by rw [mj_cat_eq]; exact r3
  have base : ∀ {n : Nat} {y : MethodName}, y = K.2.1 → mj_yok y n = true → Jvm.Cond.initialized K.2.1.cls ∈ lw_tbl → ∀ {idx : Nat}, Jvm.Cond.methodLink (mj_nm M.1) idx K.2.1 ∈ lw_tbl → CallB R s args (mj_nm M.1) idx K.2.1 K.2.2.1 K.2.2.2.1 K.2.2.2.2.1 [mj_kw K] (mj_rm K h h1) (h1.2.length - h.2.length) (h1.1 - h.1) n := by
    intro n y hy hyok hini idx hlink
    subst hy
    obtain ⟨y1, y2⟩ := mj_yok_of hyok
    exact ⟨rfl, rfl, hfr', hlo', hws, List.mem_singleton.mpr rfl, hX.1 args _ hcw rfl, hX.1 args _ hini rfl, y1, y2, hX.1 args _ hlink rfl⟩
  rcases mj_nocall ha with ⟨k, rfl⟩ | ⟨k, rfl⟩ | ⟨k, rfl⟩
  · skip
    simp only [mj_ac2] at ha
    split at ha
    case isFalse => cases ha
    rename_i hlen
    subst hlen
    refine ⟨rfl, ?_⟩
    split at ha
    · rename_i ck' n hq
      unfold mj_go at ha
      split at ha
      · rename_i hn
        simp only [Option.some.injEq, Sum.inr.injEq, Sum.inl.injEq, Prod.mk.injEq] at ha
        obtain ⟨rfl, rfl, rfl⟩ := ha
        obtain ⟨s1, s2, s3, s4⟩ := mj_sl_spec hq hK
        exact va_runS (n := n) S0 hM ⟨base rfl s4 s3 s1, hX.1 args _ s2 rfl⟩ ⟨mj_blind, hPc⟩ rfl (by rw [List.length_reverse, List.length_take]; omega) rfl (by rw [List.reverse_reverse]; exact (List.take_append_drop n st).symm) (lv_room hcat) hdg ⟨hce, hsl⟩
      · cases ha
    · split at ha
      · split at ha
        · split at ha
          · split at ha
            · simp [mj_nx] at ha
            · cases ha
          · cases ha
        · cases ha
      · cases ha
  · skip
    simp only [mj_ac2] at ha
    split at ha
    case isFalse => cases ha
    rename_i hlen
    subst hlen
    refine ⟨rfl, ?_⟩
    split at ha
    · split at ha
      · split at ha
        · simp [mj_nx] at ha
        · cases ha
      · cases ha
    · cases hq : mj_in_ M.1 k with
      | none => rw [hq] at ha; cases ha
      | some q =>
        rw [hq, Option.bind_some] at ha
        split at ha
        · rename_i b hb2
          unfold mj_go at ha
          split at ha
          · rename_i hn
            simp only [Option.some.injEq, Sum.inr.injEq, Sum.inl.injEq, Prod.mk.injEq] at ha
            obtain ⟨rfl, rfl, rfl⟩ := ha
            obtain ⟨t1, t2, t3⟩ := mj_take_ref hb2
            rw [t1] at hPc hM ⊢
            unfold mj_in_ at hq
            split at hq
            · rename_i q' hq'
              cases hq
              obtain ⟨s1, s2, s3, s4, s5, s6⟩ := mj_il_spec (k := q.1) (n := q.2) hq' hK
              have hbase := base rfl s4 s3 s1
              rw [s6] at hbase
              exact va_runI (n := q.2) S0 hM ⟨hbase, s5, hX.1 args _ s2 rfl⟩ ⟨by rw [← t1]; exact mj_blind, hPc⟩ rfl t3 rfl t2 (lv_room hcat) hdg ⟨hce, hsl⟩
            · obtain ⟨s1, s2, s3, s4, s5, s6⟩ := mj_nl_spec (k := q.1) (n := q.2) hq hK
              obtain ⟨y1, y2⟩ := mj_yok_of s4
              refine va_runIN (n := q.2) (host := "SignedPages") (bytes := K.2.2.1) (maxL := K.2.2.2.1) S0 hM ⟨⟨⟨rfl, rfl, hfr', hlo', hws, ?_⟩, ?_, hX.1 args _ s3 rfl, y1, y2, hX.1 args _ s1 rfl⟩, s5, hX.1 args _ s2 rfl⟩ ⟨by rw [← t1]; exact mj_blind, hPc⟩ rfl t3 rfl t2 (lv_room hcat) hdg ⟨hce, hsl⟩
              · rw [← s6]; exact List.mem_singleton.mpr rfl
              · rw [← s6]; exact hX.1 args _ hcw rfl
          · cases ha
        · cases ha
  · skip
    simp only [mj_ac2] at ha
    split at ha
    case isFalse => cases ha
    rename_i hlen
    subst hlen
    refine ⟨rfl, ?_⟩
    cases hvn : mj_vn M.1 k with
    | none => rw [hvn] at ha; cases ha
    | some n =>
      rw [hvn, Option.bind_some] at ha
      split at ha
      · rename_i b hb2
        split at ha
        · rename_i ci f hg
          cases hq : mj_vu M.1 k ci with
          | none => rw [hq] at ha; cases ha
          | some q =>
            rw [hq, Option.bind_some] at ha
            split at ha
            · rename_i hqn
              unfold mj_go at ha
              split at ha
              · rename_i hn
                simp only [Option.some.injEq, Sum.inr.injEq, Sum.inl.injEq, Prod.mk.injEq] at ha
                obtain ⟨rfl, rfl, rfl⟩ := ha
                obtain ⟨t1, t2, t3⟩ := mj_take_ref hb2
                rw [t1] at hPc hM ⊢
                obtain ⟨g1, g2, g3⟩ := mj_get_ws (tys := tys) hg
                unfold mj_vu at hq
                split at hq
                · rename_i q' hq'
                  cases hq
                  subst hqn
                  obtain ⟨s1, s2, s3, s4, s5, s6⟩ := mj_vl_spec (k := q.1) (n := q.2) hq' hK
                  have hr := va_recv hX.2.1 hR (mj_cf s6).1 g3
                  rw [(mj_cf s6).2.2.2.2.2.2] at hr
                  exact va_runV (n := q.2) S0 hM ⟨base rfl s5 s4 s1, hX.1 args _ s2 rfl, hX.1 args _ s3 rfl⟩ ⟨by rw [← t1]; exact mj_blind, hr, hPc⟩ rfl t3 rfl t2 (lv_room hcat) hdg ⟨hce, hsl⟩
                · subst hqn
                  obtain ⟨x, s1, s2, s3, s4, s5, s6, s7, s8, X0, s9, s10⟩ := mj_ul_spec (k := q.1) (n := q.2) hq hK
                  have hr := va_recv hX.2.1 hR (mj_cf s7).1 g3
                  rw [(mj_cf s7).2.2.2.2.2.2] at hr
                  obtain ⟨y1, y2⟩ := mj_yok_of s6
                  have hd : va_Decl s ⟨x.cls, x.name, x.desc⟩ := by
                    have hc0 : mj_kw X0 ∈ lw_tbl := s10
                    have e1 := hX.1 args _ hc0 rfl
                    unfold mj_kw at e1
                    rw [s9] at e1
                    exact va_Decl.of (hX.1 args _ s8 rfl) e1
                  exact va_runU (n := q.2) S0 hM ⟨⟨rfl, rfl, hfr', hlo', hws, List.mem_singleton.mpr rfl⟩, hX.1 args _ hcw rfl, hX.1 args _ s5 rfl, y1, y2, hX.1 args _ s1 rfl, hX.1 args _ s2 rfl, hd, hX.1 args _ s3 rfl, hX.1 args _ s4 rfl⟩ ⟨by rw [← t1]; exact mj_blind, hr, hPc⟩ rfl t3 rfl t2 (lv_room hcat) hdg ⟨hce, hsl⟩
              · cases ha
            · cases ha
        · cases ha
      · cases ha
end MJ4
