/-- may a method write this field: it isn't final, or its own class's constructor does -/
def mj_pok (M : mj_M) (g : Nat) : Bool := !(mj_fin g) || (M.2.1.name == "<init>" && (mj_g g).1 == M.2.1.cls)
def mj_vn (c i : Nat) : Option Nat := (mj_VL.find? (fun q => q.1 == c && q.2.1 == i)).map (fun q => q.2.2.2.2.1)
def mj_vu (c i k : Nat) : Option (Nat × Nat) := match mj_vl c i k with
  | some q => some q
  | none => mj_ul c i k
def mj_in_ (c i : Nat) : Option (Nat × Nat) := match mj_il c i with
  | some q => some q
  | none => mj_nl c i
def mj_at2 (ci : Nat) : Option Nat := (mj_ac.findIdx? (fun c => c == ci)).map (fun k => k + 3)
def mj_go (mk n : Nat) (st : List Value) : mj_A := if n ≤ st.length then some (.inr (.inl (mk, (st.take n).reverse, st.drop n))) else none
def mj_ac2 (V : mj_V) (M : mj_M) (pc : Nat) (i : Instr) (len : Nat) (loc : mj_L) (st : List Value) (h : mj_H) : mj_A := match i with
  | .ldc_w k => if len = 3 then (mj_cil M.1 k).bind (fun x => mj_nx (pc + 3) loc (.int x :: st) h) else none
  | .ldc2_w k => if len = 3 then (mj_cjl M.1 k).bind (fun x => mj_nx (pc + 3) loc (.long x :: st) h) else none
  | .getfield k => if len = 3 then (match st with
    | .ref a :: r => (match mj_get V h a with
      | some (.inr (ci, f)) => (mj_fl M.1 k).bind (fun g => if mj_has ci g = true then mj_nx (pc + 3) loc (f g :: r) h else none)
      | _ => none)
    | _ => none) else none
  | .putfield k => if len = 3 then (match st with
    | v :: .ref a :: r => (match mj_get V h a with
      | some (.inr (ci, f)) => (mj_fl M.1 k).bind (fun g => if mj_has ci g = true ∧ mj_fit (mj_gt.getD g .int) v = true ∧ mj_pok M g = true then mj_nx (pc + 3) loc r (mj_set V h a (.inr (ci, va_up f g v))) else none)
      | _ => none)
    | _ => none) else none
  | .getstatic k => if len = 3 then (mj_gs M.1 k).bind (fun q => mj_nx (pc + 3) loc (.ref (V.2.1 q) :: st) h) else none
  | .iaload => if len = 1 then (match st with
    | .int j :: .ref a :: r => (mj_ai V h 0 a).bind (fun q => if j < 0 ∨ q.1 ≤ j.toNatClampNeg then none else mj_nx (pc + 1) loc (.int (q.2 j.toNatClampNeg) :: r) h)
    | _ => none) else none
  | .baload => if len = 1 then (match st with
    | .int j :: .ref a :: r => (match mj_get V h a with
      | some (.inl (t, n, .inl f)) => if t = 1 ∨ t = 2 then (if j < 0 ∨ n ≤ j.toNatClampNeg then none else mj_nx (pc + 1) loc (.int (f j.toNatClampNeg) :: r) h) else none
      | _ => none)
    | _ => none) else none
  | .aaload => if len = 1 then (match st with
    | .int j :: .ref a :: r => (match mj_get V h a with
      | some (.inl (t, n, .inr (.inr (.inr (.inr f))))) => if 3 ≤ t ∧ t ≤ 6 then (if j < 0 ∨ n ≤ j.toNatClampNeg then none else mj_nx (pc + 1) loc (va_rf (f j.toNatClampNeg) :: r) h) else none
      | _ => none)
    | _ => none) else none
  | .iastore => if len = 1 then (match st with
    | .int x :: .int j :: .ref a :: r => (match mj_get V h a with
      | some (.inl (t, n, .inl f)) => if t = 0 then (if j < 0 ∨ n ≤ j.toNatClampNeg then none else mj_nx (pc + 1) loc r (mj_set V h a (.inl (0, n, .inl (upd f j.toNatClampNeg x))))) else none
      | _ => none)
    | _ => none) else none
  | .bastore => if len = 1 then (match st with
    | .int x :: .int j :: .ref a :: r => (match mj_get V h a with
      | some (.inl (t, n, .inl f)) => if j < 0 ∨ n ≤ j.toNatClampNeg then none else (if t = 1 then mj_nx (pc + 1) loc r (mj_set V h a (.inl (1, n, .inl (upd f j.toNatClampNeg x.toInt8.toInt32)))) else (if t = 2 then mj_nx (pc + 1) loc r (mj_set V h a (.inl (2, n, .inl (upd f j.toNatClampNeg (x &&& 1))))) else none))
      | _ => none)
    | _ => none) else none
  | .aastore => if len = 1 then (match st with
    | .ref v :: .int j :: .ref a :: r => (match mj_get V h a, mj_get V h v with
      | some (.inl (t, n, .inr (.inr (.inr (.inr f))))), some (.inr (ci, _)) => if 3 ≤ t ∧ t ≤ 6 ∧ mj_isY ci (mj_ac.getD (t - 3) 99) = true then (if j < 0 ∨ n ≤ j.toNatClampNeg then none else mj_nx (pc + 1) loc r (mj_set V h a (.inl (t, n, .inr (.inr (.inr (.inr (va_up f j.toNatClampNeg (some v)))))))) ) else none
      | _, _ => none)
    | _ => none) else none
  | .arraylength => if len = 1 then (match st with
    | .ref a :: r => if V.1 ≤ a then (match mj_get V h a with
      | some (.inl (t, x)) => if t < 7 then mj_nx (pc + 1) loc (.int (Int32.ofNat x.1) :: r) h else none
      | _ => none) else (V.2.2 a).bind (fun q => mj_nx (pc + 1) loc (.int (Int32.ofNat q.1) :: r) h)
    | _ => none) else none
  | .newarray t => if len = 2 then (match st with
    | .int n :: r => (mj_tag t).bind (fun q => if ¬ n < 0 ∧ n.toNatClampNeg ≤ 1000 then mj_nx (pc + 2) loc (.ref (V.1 + h.2.length) :: r) (h.1 + n.toNatClampNeg, h.2 ++ [.inl (q.1, n.toNatClampNeg, .inl (fun _ => 0))]) else none)
    | _ => none) else none
  | .anewarray k => if len = 3 then (match st with
    | .int n :: r => (mj_kl M.1 k).bind (fun ci => (mj_at2 ci).bind (fun t => if ¬ n < 0 ∧ n.toNatClampNeg ≤ 1000 then mj_nx (pc + 3) loc (.ref (V.1 + h.2.length) :: r) (h.1 + n.toNatClampNeg, h.2 ++ [.inl (t, n.toNatClampNeg, .inr (.inr (.inr (.inr (fun _ => none)))))]) else none))
    | _ => none) else none
  | .new k => if len = 3 then (mj_kl M.1 k).bind (fun ci => if ci < 12 then mj_nx (pc + 3) loc (.ref (V.1 + h.2.length) :: st) (h.1 + (mj_c ci).2.2, h.2 ++ [.inr (ci, mj_born)]) else none) else none
  | .checkcast k => if len = 3 then (match st with
    | .null :: r => mj_nx (pc + 3) loc (.null :: r) h
    | .ref a :: r => (match mj_get V h a with
      | some (.inr (ci, _)) => (mj_kl M.1 k).bind (fun cj => if mj_isY ci cj = true then mj_nx (pc + 3) loc (.ref a :: r) h else none)
      | _ => none)
    | _ => none) else none
  | .instanceof k => if len = 3 then (match st with
    | .null :: r => mj_nx (pc + 3) loc (.int 0 :: r) h
    | .ref a :: r => (match mj_get V h a with
      | some (.inr (ci, _)) => (mj_kl M.1 k).bind (fun cj => if mj_isY ci cj = true then mj_nx (pc + 3) loc (.int 1 :: r) h else if mj_isN ci cj = true then mj_nx (pc + 3) loc (.int 0 :: r) h else none)
      | _ => none)
    | _ => none) else none
  | .invokestatic k => if len = 3 then (match mj_sl_ M.1 k with
    | some (ck, n) => mj_go ck n st
    | none => if mj_al M.1 k = true then (match st with
      | .int n :: .int dp :: .ref a :: .int sp :: .ref a0 :: r => (match mj_get V h a0, mj_get V h a with
        | some (.inl (t0, n0, .inl f)), some (.inl (t1, n1, .inl g)) => if t0 = 0 ∧ t1 = 0 ∧ ¬ sp < 0 ∧ ¬ dp < 0 ∧ ¬ n < 0 ∧ sp.toNatClampNeg + n.toNatClampNeg ≤ n0 ∧ dp.toNatClampNeg + n.toNatClampNeg ≤ n1 ∧ 1 ≤ M.2.2.2.2.2.2.1 ∧ mj_cat r + 18 ≤ M.2.2.2.2.2.2.2 then mj_nx (pc + 3) loc r (mj_set V h a (.inl (0, n1, .inl (va_cpy f g sp.toNatClampNeg dp.toNatClampNeg n.toNatClampNeg)))) else none
        | _, _ => none)
      | _ => none) else none) else none
  | .invokespecial k => if len = 3 then (if mj_ol M.1 k = true then (match st with
      | .ref _ :: r => if 1 ≤ M.2.2.2.2.2.2.1 ∧ mj_cat r + 12 ≤ M.2.2.2.2.2.2.2 then mj_nx (pc + 3) loc r h else none
      | _ => none)
    else (mj_in_ M.1 k).bind (fun q => match st[q.2]? with
      | some (.ref _) => mj_go q.1 (q.2 + 1) st
      | _ => none)) else none
  | .invokevirtual k => if len = 3 then (mj_vn M.1 k).bind (fun n => match st[n]? with
    | some (.ref b) => (match mj_get V h b with
      | some (.inr (ci, _)) => (mj_vu M.1 k ci).bind (fun q => if q.2 = n then mj_go q.1 (n + 1) st else none)
      | _ => none)
    | _ => none) else none
  | .ireturn => if len = 1 then (mj_ret M.2.2.2.2.1 .ireturn st).map (fun v => .inr (.inr v)) else none
  | .lreturn => if len = 1 then (mj_ret M.2.2.2.2.1 .lreturn st).map (fun v => .inr (.inr v)) else none
  | .areturn => if len = 1 then (mj_ret M.2.2.2.2.1 .areturn st).map (fun v => .inr (.inr v)) else none
  | .return_ => if len = 1 then (mj_ret M.2.2.2.2.1 .return_ st).map (fun v => .inr (.inr v)) else none
  | _ => none
def mj_act (V : mj_V) (M : mj_M) (pc : Nat) (i : Instr) (len : Nat) (loc : mj_L) (st : List Value) (h : mj_H) : mj_A := match mj_ac1 M.2.2.2.2.2.1 pc i len loc st h with
  | some a => some a
  | none => mj_ac2 V M pc i len loc st h
def mj_fe (c : ByteArray) (pc : Nat) : Option (Instr × Nat) := match decode c pc with
  | .ok q => some q
  | .error _ => none
/-- does the callee's room fit the caller's; what lies on the caller's stack meanwhile is little -/
def mj_rok (M K : mj_M) (rest : List Value) : Bool := decide (K.2.2.2.2.2.2.1 + 1 ≤ M.2.2.2.2.2.2.1) && (decide (8 + (K.2.2.2.1 + 11) + K.2.2.2.2.2.2.2 ≤ M.2.2.2.2.2.2.2) && decide (mj_cat rest ≤ 8))
def mj_run (V : mj_V) : Nat → Nat → Nat → mj_L → List Value → mj_H → Option (Option Value × mj_H)
  | 0, _, _, _, _, _ => none
  | n + 1, mi, pc, loc, st, h =>
    (mj_ms[mi]?).bind fun M => (mj_fe M.2.2.1 pc).bind fun q => (mj_act V M pc q.1 q.2 loc st h).bind fun a => match a with
      | .inl x => mj_run V n mi x.1 x.2.1 x.2.2.1 x.2.2.2
      | .inr (.inl y) => (mj_ms[y.1]?).bind fun K => if mj_rok M K y.2.2 = true ∧ y.1 < 218 then (mj_ent K.2.2.2.2.2.1 K.2.2.2.1 y.2.1).bind fun l0 => (mj_run V n y.1 0 l0 [] h).bind fun r => mj_run V n mi (pc + q.2) loc (r.1.toList ++ y.2.2) r.2 else none
      | .inr (.inr v) => some (v, h)
