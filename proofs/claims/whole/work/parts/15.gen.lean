/-! an instruction of each kind, as an equation of mj_ev -/
section MJ6
variable {V : mj_V} {mi pc : Nat} {loc : mj_L} {st r : List Value} {h : mj_H} {M : mj_M} {k g a : Nat}
theorem mj_r_get (hM : mj_ms[mi]? = some M) (hd : decode M.2.2.1 pc = .ok (.getfield k, 3)) (hf : mj_fl M.1 k = some g) : mj_ev V mi pc loc (.ref a :: r) h = (mj_fld V h a g).bind (fun v => mj_ev V mi (pc + 3) loc (v :: r) h) := by
  have e : mj_act V M pc (.getfield k) 3 loc (.ref a :: r) h = (mj_fld V h a g).bind (fun v => mj_nx (pc + 3) loc (v :: r) h) := by
    simp only [mj_act, mj_ac1, mj_ac2, mj_fld, if_true, hf, Option.bind_some]
    cases hg : mj_get V h a with
    | none => rfl
    | some x =>
      rcases x with x | ⟨ci, f⟩
      · rfl
      · simp only
        split <;> rfl
  cases hv : mj_fld V h a g with
  | none => rw [hv] at e; exact mj_fall hM hd e
  | some v => rw [hv] at e; exact mj_next hM hd e
theorem mj_r_put {v : Value} (hM : mj_ms[mi]? = some M) (hd : decode M.2.2.1 pc = .ok (.putfield k, 3)) (hf : mj_fl M.1 k = some g) (hp : mj_pok M g = true) (hv : mj_fit (mj_gt.getD g .int) v = true) : mj_ev V mi pc loc (v :: .ref a :: r) h = (mj_sfl V h a g v).bind (fun h' => mj_ev V mi (pc + 3) loc r h') := by
  have e : mj_act V M pc (.putfield k) 3 loc (v :: .ref a :: r) h = (mj_sfl V h a g v).bind (fun h' => mj_nx (pc + 3) loc r h') := by
    simp only [mj_act, mj_ac1, mj_ac2, mj_sfl, if_true, hf, hp, hv, Option.bind_some, and_true]
    cases hg : mj_get V h a with
    | none => rfl
    | some x =>
      rcases x with x | ⟨ci, f⟩
      · rfl
      · simp only
        split <;> rfl
  cases hv : mj_sfl V h a g v with
  | none => rw [hv] at e; exact mj_fall hM hd e
  | some v => rw [hv] at e; exact mj_next hM hd e
theorem mj_r_iald {j : Int32} (hM : mj_ms[mi]? = some M) (hd : decode M.2.2.1 pc = .ok (.iaload, 1)) : mj_ev V mi pc loc (.int j :: .ref a :: r) h = (mj_ial V h a j).bind (fun x => mj_ev V mi (pc + 1) loc (.int x :: r) h) := by
  have e : mj_act V M pc .iaload 1 loc (.int j :: .ref a :: r) h = (mj_ial V h a j).bind (fun x => mj_nx (pc + 1) loc (.int x :: r) h) := by
    simp only [mj_act, mj_ac1, mj_ac2, mj_ial, if_true]
    cases hg : mj_ai V h 0 a with
    | none => rfl
    | some x =>
      simp only [Option.bind_some]
      split <;> rfl
  cases hv : mj_ial V h a j with
  | none => rw [hv] at e; exact mj_fall hM hd e
  | some v => rw [hv] at e; exact mj_next hM hd e
theorem mj_r_bald {j : Int32} (hM : mj_ms[mi]? = some M) (hd : decode M.2.2.1 pc = .ok (.baload, 1)) : mj_ev V mi pc loc (.int j :: .ref a :: r) h = (mj_bal V h a j).bind (fun x => mj_ev V mi (pc + 1) loc (.int x :: r) h) := by
  have e : mj_act V M pc .baload 1 loc (.int j :: .ref a :: r) h = (mj_bal V h a j).bind (fun x => mj_nx (pc + 1) loc (.int x :: r) h) := by
    simp only [mj_act, mj_ac1, mj_ac2, mj_bal, if_true]
    cases hg : mj_get V h a with
    | none => rfl
    | some x =>
      rcases x with ⟨t, n, f | f⟩ | x
      · simp only
        split
        · split <;> rfl
        · rfl
      · rfl
      · rfl
  cases hv : mj_bal V h a j with
  | none => rw [hv] at e; exact mj_fall hM hd e
  | some v => rw [hv] at e; exact mj_next hM hd e
theorem mj_r_aald {j : Int32} (hM : mj_ms[mi]? = some M) (hd : decode M.2.2.1 pc = .ok (.aaload, 1)) : mj_ev V mi pc loc (.int j :: .ref a :: r) h = (mj_aal V h a j).bind (fun o => mj_ev V mi (pc + 1) loc (va_rf o :: r) h) := by
  have e : mj_act V M pc .aaload 1 loc (.int j :: .ref a :: r) h = (mj_aal V h a j).bind (fun o => mj_nx (pc + 1) loc (va_rf o :: r) h) := by
    simp only [mj_act, mj_ac1, mj_ac2, mj_aal, if_true]
    cases hg : mj_get V h a with
    | none => rfl
    | some x =>
      rcases x with ⟨t, n, f | f | f | f | f⟩ | x
      · rfl
      · rfl
      · rfl
      · rfl
      · simp only
        split
        · split <;> rfl
        · rfl
      · rfl
  cases hv : mj_aal V h a j with
  | none => rw [hv] at e; exact mj_fall hM hd e
  | some v => rw [hv] at e; exact mj_next hM hd e
theorem mj_r_iast {j x : Int32} (hM : mj_ms[mi]? = some M) (hd : decode M.2.2.1 pc = .ok (.iastore, 1)) : mj_ev V mi pc loc (.int x :: .int j :: .ref a :: r) h = (mj_ias V h a j x).bind (fun h' => mj_ev V mi (pc + 1) loc r h') := by
  have e : mj_act V M pc .iastore 1 loc (.int x :: .int j :: .ref a :: r) h = (mj_ias V h a j x).bind (fun h' => mj_nx (pc + 1) loc r h') := by
    simp only [mj_act, mj_ac1, mj_ac2, mj_ias, if_true]
    cases hg : mj_get V h a with
    | none => rfl
    | some x =>
      rcases x with ⟨t, n, f | f⟩ | x
      · simp only
        split
        · split <;> rfl
        · rfl
      · rfl
      · rfl
  cases hv : mj_ias V h a j x with
  | none => rw [hv] at e; exact mj_fall hM hd e
  | some v => rw [hv] at e; exact mj_next hM hd e
theorem mj_r_bast {j x : Int32} (hM : mj_ms[mi]? = some M) (hd : decode M.2.2.1 pc = .ok (.bastore, 1)) : mj_ev V mi pc loc (.int x :: .int j :: .ref a :: r) h = (mj_bas V h a j x).bind (fun h' => mj_ev V mi (pc + 1) loc r h') := by
  have e : mj_act V M pc .bastore 1 loc (.int x :: .int j :: .ref a :: r) h = (mj_bas V h a j x).bind (fun h' => mj_nx (pc + 1) loc r h') := by
    simp only [mj_act, mj_ac1, mj_ac2, mj_bas, if_true]
    cases hg : mj_get V h a with
    | none => rfl
    | some x =>
      rcases x with ⟨t, n, f | f⟩ | x
      · simp only
        split
        · rfl
        · split
          · rfl
          · split <;> rfl
      · rfl
      · rfl
  cases hv : mj_bas V h a j x with
  | none => rw [hv] at e; exact mj_fall hM hd e
  | some v => rw [hv] at e; exact mj_next hM hd e
theorem mj_r_aast {j : Int32} {v : Nat} (hM : mj_ms[mi]? = some M) (hd : decode M.2.2.1 pc = .ok (.aastore, 1)) : mj_ev V mi pc loc (.ref v :: .int j :: .ref a :: r) h = (mj_aas V h a j v).bind (fun h' => mj_ev V mi (pc + 1) loc r h') := by
  have e : mj_act V M pc .aastore 1 loc (.ref v :: .int j :: .ref a :: r) h = (mj_aas V h a j v).bind (fun h' => mj_nx (pc + 1) loc r h') := by
    simp only [mj_act, mj_ac1, mj_ac2, mj_aas, if_true]
    cases hg : mj_get V h a with
    | none => rfl
    | some x =>
      rcases x with ⟨t, n, f | f | f | f | f⟩ | x
      · rfl
      · rfl
      · rfl
      · rfl
      · cases hg2 : mj_get V h v with
        | none => rfl
        | some y =>
          rcases y with y | ⟨ci, fv⟩
          · rfl
          · simp only
            split
            · split <;> rfl
            · rfl
      · rfl
  cases hv : mj_aas V h a j v with
  | none => rw [hv] at e; exact mj_fall hM hd e
  | some v => rw [hv] at e; exact mj_next hM hd e
theorem mj_r_alen (hM : mj_ms[mi]? = some M) (hd : decode M.2.2.1 pc = .ok (.arraylength, 1)) : mj_ev V mi pc loc (.ref a :: r) h = (mj_len V h a).bind (fun n => mj_ev V mi (pc + 1) loc (.int (Int32.ofNat n) :: r) h) := by
  have e : mj_act V M pc .arraylength 1 loc (.ref a :: r) h = (mj_len V h a).bind (fun n => mj_nx (pc + 1) loc (.int (Int32.ofNat n) :: r) h) := by
    simp only [mj_act, mj_ac1, mj_ac2, mj_len, if_true]
    split
    · cases hg : mj_get V h a with
      | none => rfl
      | some x =>
        rcases x with ⟨t, x⟩ | x
        · simp only
          split <;> rfl
        · rfl
    · cases hq : V.2.2 a <;> rfl
  cases hv : mj_len V h a with
  | none => rw [hv] at e; exact mj_fall hM hd e
  | some v => rw [hv] at e; exact mj_next hM hd e
theorem mj_r_inst {cj : Nat} (hM : mj_ms[mi]? = some M) (hd : decode M.2.2.1 pc = .ok (.instanceof k, 3)) (hk : mj_kl M.1 k = some cj) : mj_ev V mi pc loc (.ref a :: r) h = (mj_cls V h a).bind (fun ci => if mj_isY ci cj = true then mj_ev V mi (pc + 3) loc (.int 1 :: r) h else if mj_isN ci cj = true then mj_ev V mi (pc + 3) loc (.int 0 :: r) h else none) := by
  have e : mj_act V M pc (.instanceof k) 3 loc (.ref a :: r) h = (mj_cls V h a).bind (fun ci => if mj_isY ci cj = true then mj_nx (pc + 3) loc (.int 1 :: r) h else if mj_isN ci cj = true then mj_nx (pc + 3) loc (.int 0 :: r) h else none) := by
    simp only [mj_act, mj_ac1, mj_ac2, mj_cls, if_true, hk, Option.bind_some]
    cases hg : mj_get V h a with
    | none => rfl
    | some x =>
      rcases x with x | ⟨ci, f⟩
      · rfl
      · rfl
  cases hv : mj_cls V h a with
  | none => rw [hv] at e; exact mj_fall hM hd e
  | some ci =>
    rw [hv, Option.bind_some] at e
    rw [Option.bind_some]
    split
    · rename_i q; rw [if_pos q] at e; exact mj_next hM hd e
    · rename_i q; rw [if_neg q] at e
      split
      · rename_i q; rw [if_pos q] at e; exact mj_next hM hd e
      · rename_i q; rw [if_neg q] at e; exact mj_fall hM hd e
theorem mj_r_cast {cj : Nat} (hM : mj_ms[mi]? = some M) (hd : decode M.2.2.1 pc = .ok (.checkcast k, 3)) (hk : mj_kl M.1 k = some cj) : mj_ev V mi pc loc (.ref a :: r) h = (mj_cls V h a).bind (fun ci => if mj_isY ci cj = true then mj_ev V mi (pc + 3) loc (.ref a :: r) h else none) := by
  have e : mj_act V M pc (.checkcast k) 3 loc (.ref a :: r) h = (mj_cls V h a).bind (fun ci => if mj_isY ci cj = true then mj_nx (pc + 3) loc (.ref a :: r) h else none) := by
    simp only [mj_act, mj_ac1, mj_ac2, mj_cls, if_true, hk, Option.bind_some]
    cases hg : mj_get V h a with
    | none => rfl
    | some x =>
      rcases x with x | ⟨ci, f⟩
      · rfl
      · rfl
  cases hv : mj_cls V h a with
  | none => rw [hv] at e; exact mj_fall hM hd e
  | some ci =>
    rw [hv, Option.bind_some] at e
    rw [Option.bind_some]
    split
    · rename_i q; rw [if_pos q] at e; exact mj_next hM hd e
    · rename_i q; rw [if_neg q] at e; exact mj_fall hM hd e
theorem mj_r_cpy {n dp sp : Int32} {a0 : Nat} (hM : mj_ms[mi]? = some M) (hd : decode M.2.2.1 pc = .ok (.invokestatic k, 3)) (hk : mj_sl_ M.1 k = none) (hal : mj_al M.1 k = true) (hfr : 1 ≤ M.2.2.2.2.2.2.1) (hlo : mj_cat r + 18 ≤ M.2.2.2.2.2.2.2) : mj_ev V mi pc loc (.int n :: .int dp :: .ref a :: .int sp :: .ref a0 :: r) h = (mj_cpy V h a0 sp a dp n).bind (fun h' => mj_ev V mi (pc + 3) loc r h') := by
  have e : mj_act V M pc (.invokestatic k) 3 loc (.int n :: .int dp :: .ref a :: .int sp :: .ref a0 :: r) h = (mj_cpy V h a0 sp a dp n).bind (fun h' => mj_nx (pc + 3) loc r h') := by
    simp only [mj_act, mj_ac1, mj_ac2, mj_cpy, if_true, hk, hal, hfr, hlo, and_true]
    cases hg : mj_get V h a0 with
    | none => rfl
    | some x =>
      rcases x with ⟨t, n0, f | f⟩ | x
      · cases hg2 : mj_get V h a with
        | none => rfl
        | some y =>
          rcases y with ⟨t2, n2, f2 | f2⟩ | y
          · simp only
            split <;> rfl
          · rfl
          · rfl
      · rfl
      · rfl
  cases hv : mj_cpy V h a0 sp a dp n with
  | none => rw [hv] at e; exact mj_fall hM hd e
  | some v => rw [hv] at e; exact mj_next hM hd e
theorem mj_r_stat {M : mj_M} {ck n : Nat} {K : mj_M} {l0 : mj_L} {as rest : List Value} (hM : mj_ms[mi]? = some M) (hd : decode M.2.2.1 pc = .ok (.invokestatic k, 3)) (hk : mj_sl_ M.1 k = some (ck, n)) (hn : n ≤ st.length) (has : (st.take n).reverse = as) (hre : st.drop n = rest) (hK : mj_ms[ck]? = some K) (hr : mj_rok M K rest = true) (hc : ck < 218) (he : mj_ent K.2.2.2.2.2.1 K.2.2.2.1 as = some l0) :
    mj_ev V mi pc loc st h = (mj_ev V ck 0 l0 [] h).bind (fun q => mj_ev V mi (pc + 3) loc (q.1.toList ++ rest) q.2) :=
  mj_invoke hM hd (by simp only [mj_act, mj_ac1, mj_ac2, if_true, hk, mj_go, if_pos hn, has, hre]) hK hr hc he
theorem mj_r_spec {M : mj_M} {ck n b : Nat} {K : mj_M} {l0 : mj_L} {as rest : List Value} (hM : mj_ms[mi]? = some M) (hd : decode M.2.2.1 pc = .ok (.invokespecial k, 3)) (hol : mj_ol M.1 k = false) (hk : mj_in_ M.1 k = some (ck, n)) (hb : st[n]? = some (.ref b)) (hn : n + 1 ≤ st.length) (has : (st.take (n + 1)).reverse = as) (hre : st.drop (n + 1) = rest) (hK : mj_ms[ck]? = some K) (hr : mj_rok M K rest = true) (hc : ck < 218) (he : mj_ent K.2.2.2.2.2.1 K.2.2.2.1 as = some l0) :
    mj_ev V mi pc loc st h = (mj_ev V ck 0 l0 [] h).bind (fun q => mj_ev V mi (pc + 3) loc (q.1.toList ++ rest) q.2) :=
  mj_invoke hM hd (by simp only [mj_act, mj_ac1, mj_ac2, if_true, hol, Bool.false_eq_true, if_false, hk, Option.bind_some, hb, mj_go, if_pos hn, has, hre]) hK hr hc he
theorem mj_r_virt {M : mj_M} {ck n b ci : Nat} {K : mj_M} {l0 : mj_L} {as rest : List Value} (hM : mj_ms[mi]? = some M) (hd : decode M.2.2.1 pc = .ok (.invokevirtual k, 3)) (hvn : mj_vn M.1 k = some n) (hk : mj_vu M.1 k ci = some (ck, n)) (hb : st[n]? = some (.ref b)) (hn : n + 1 ≤ st.length) (has : (st.take (n + 1)).reverse = as) (hre : st.drop (n + 1) = rest) (hK : mj_ms[ck]? = some K) (hr : mj_rok M K rest = true) (hc : ck < 218) (he : mj_ent K.2.2.2.2.2.1 K.2.2.2.1 as = some l0) (hci : mj_cls V h b = some ci) :
    mj_ev V mi pc loc st h = (mj_ev V ck 0 l0 [] h).bind (fun q => mj_ev V mi (pc + 3) loc (q.1.toList ++ rest) q.2) := by
  refine mj_invoke hM hd ?_ hK hr hc he
  unfold mj_cls at hci
  split at hci
  · rename_i ci' f hg
    cases hci
    simp only [mj_act, mj_ac1, mj_ac2, if_true, hvn, Option.bind_some, hb, hg, hk, mj_go, if_pos hn, has, hre]
  · cases hci
theorem mj_vu_none {c i C ci : Nat} (h1 : mj_VL.all (fun q => !(q.1 == c && q.2.1 == i) || q.2.2.1 == C) = true) (h2 : mj_UL.all (fun q => !(q.1 == c && q.2.1 == i) || q.2.2.1 == C) = true) (hne : ci ≠ C) : mj_vu c i ci = none := by
  have e1 : mj_vl c i ci = none := by
    rw [mj_vl, Option.map_eq_none_iff, List.find?_eq_none]
    intro q hq hh
    simp only [Bool.and_eq_true, beq_iff_eq] at hh
    have := List.all_eq_true.mp h1 q hq
    simp only [hh.1, hh.2.1, beq_self_eq_true, Bool.and_self, Bool.not_true, Bool.false_or, beq_iff_eq] at this
    exact hne (hh.2.2.symm.trans this)
  have e2 : mj_ul c i ci = none := by
    rw [mj_ul, Option.map_eq_none_iff, List.find?_eq_none]
    intro q hq hh
    simp only [Bool.and_eq_true, beq_iff_eq] at hh
    have := List.all_eq_true.mp h2 q hq
    simp only [hh.1, hh.2.1, beq_self_eq_true, Bool.and_self, Bool.not_true, Bool.false_or, beq_iff_eq] at this
    exact hne (hh.2.2.symm.trans this)
  rw [mj_vu, e1, e2]
theorem mj_r_virtU {M : mj_M} {ck n b C : Nat} {K : mj_M} {l0 : mj_L} {as rest : List Value} (hM : mj_ms[mi]? = some M) (hd : decode M.2.2.1 pc = .ok (.invokevirtual k, 3)) (hvn : mj_vn M.1 k = some n) (hk : mj_vu M.1 k C = some (ck, n)) (h1 : mj_VL.all (fun q => !(q.1 == M.1 && q.2.1 == k) || q.2.2.1 == C) = true) (h2 : mj_UL.all (fun q => !(q.1 == M.1 && q.2.1 == k) || q.2.2.1 == C) = true) (hb : st[n]? = some (.ref b)) (hn : n + 1 ≤ st.length) (has : (st.take (n + 1)).reverse = as) (hre : st.drop (n + 1) = rest) (hK : mj_ms[ck]? = some K) (hr : mj_rok M K rest = true) (hc : ck < 218) (he : mj_ent K.2.2.2.2.2.1 K.2.2.2.1 as = some l0) :
    mj_ev V mi pc loc st h = (mj_cls V h b).bind (fun ci => if ci = C then (mj_ev V ck 0 l0 [] h).bind (fun q => mj_ev V mi (pc + 3) loc (q.1.toList ++ rest) q.2) else none) := by
  cases hci : mj_cls V h b with
  | none =>
    refine mj_fall hM hd ?_
    simp only [mj_act, mj_ac1, mj_ac2, if_true, hvn, Option.bind_some, hb]
    unfold mj_cls at hci
    split at hci
    · cases hci
    · rename_i hx
      split
      · rename_i ci f hg
        exact absurd hg (hx ci f)
      · rfl
  | some ci =>
    rw [Option.bind_some]
    by_cases hcc : ci = C
    · subst hcc
      rw [if_pos rfl]
      exact mj_r_virt hM hd hvn hk hb hn has hre hK hr hc he hci
    · rw [if_neg hcc]
      refine mj_fall hM hd ?_
      unfold mj_cls at hci
      split at hci
      · rename_i ci' f hg
        cases hci
        simp only [mj_act, mj_ac1, mj_ac2, if_true, hvn, Option.bind_some, hb, hg, mj_vu_none h1 h2 hcc]
        rfl
      · cases hci
theorem mj_if {c : Prop} {hc : Decidable c} {t u : Nat} : mj_ev V mi (if c then t else u) loc st h = if c then mj_ev V mi t loc st h else mj_ev V mi u loc st h := by
  split <;> rfl
end MJ6
