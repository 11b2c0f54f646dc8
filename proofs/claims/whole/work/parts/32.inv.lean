/-! What always holds between the class's numbers and the model's -/
def vF (I : hq_I) : Prop := I 0 37 = I 51 70 ∧ ∀ j, j < 6 → I 6 j = I 76 j
def vA (I : hq_I) (J : hq_J) : Prop := I 0 38 = I 51 67 ∧ J 39 = J 68 ∧ J 40 = J 69
def vD (I : hq_I) : Prop := I 0 36 = I 51 45 ∧ 0 ≤ (I 0 36).toInt ∧ (I 0 36).toInt ≤ 999
/-- a row, or a text: sizes, and what is there -/
def vR1 (I : hq_I) (r : Nat) : Prop := I 53 r = I (11 + 2 * r) 21 ∧ (-1 ≤ (I (11 + 2 * r) 21).toInt ∧ (I (11 + 2 * r) 21).toInt ≤ 40) ∧ ∀ i : Nat, (i : Int) < (I (11 + 2 * r) 21).toInt → I 52 (40 * r + i) = I (12 + 2 * r) i
def vR (I : hq_I) : Prop := ∀ r, r < 6 → vR1 I r
def vT1 (I : hq_I) (t : Nat) : Prop := I 55 t = I (23 + 2 * t) 23 ∧ (-1 ≤ (I (23 + 2 * t) 23).toInt ∧ (I (23 + 2 * t) 23).toInt ≤ 40) ∧ ∀ i : Nat, (i : Int) < (I (23 + 2 * t) 23).toInt → I 54 (40 * t + i) = I (24 + 2 * t) i
def vT (I : hq_I) : Prop := ∀ t, t < 4 → vT1 I t
def vX (I : hq_I) : Prop := (∀ s w, s < 5 → w < 6 → I 5 (6 * s + w) = I 75 (7 * s + w + 1)) ∧ ∀ s, s < 5 → I 75 (7 * s) = 0
/-- how many bits of the ten -/
def b10 (n : Nat) : Nat := n % 2 + n / 2 % 2 + n / 4 % 2 + n / 8 % 2 + n / 16 % 2 + n / 32 % 2 + n / 64 % 2 + n / 128 % 2 + n / 256 % 2 + n / 512 % 2
/-- a sum that a list tells: none, or 0 .. 999 -/
def vS (x : Int32) : Prop := x = -9 ∨ (0 ≤ x.toInt ∧ x.toInt ≤ 999)
def vcnt (f : Nat → Int32) : Nat → Nat
  | 0 => 0
  | n + 1 => vcnt f n + if 0 ≤ (f n).toInt then 1 else 0
/-- a page -/
def vP1 (I : hq_I) (p k : Nat) : Prop :=
  (k ≤ 5 ∧ I (1000 + 4 * p) 0 = nI k ∧ I 56 p = nI k) ∧ (I 57 p = I (1000 + 4 * p) 1 ∧ 1 ≤ (I (1000 + 4 * p) 1).toInt ∧ (I (1000 + 4 * p) 1).toInt ≤ 99) ∧ I 58 p = I (1000 + 4 * p) 2 ∧
  (I 59 p = I (1000 + 4 * p) 3 ∧ ∃ n, n < 1024 ∧ I (1000 + 4 * p) 3 = nI n) ∧ I 66 p = I (1000 + 4 * p) 4 ∧
  (k = 1 → ∀ j, j < 5 → I 60 (5 * p + j) = I (1001 + 4 * p) j ∧ I 61 (5 * p + j) = I (1002 + 4 * p) j ∧ ∃ n m, n < 1024 ∧ 1 ≤ m ∧ m ≤ b10 n ∧ I (1001 + 4 * p) j = nI n ∧ I (1002 + 4 * p) j = nI m) ∧
  (k = 2 ∨ k = 3 → (∀ f, f < 10 → I 62 (10 * p + f) = I (1001 + 4 * p) f ∧ vS (I (1001 + 4 * p) f)) ∧ I 63 p = I (1000 + 4 * p) 7 ∧ (∃ n, n < 1024 ∧ I (1000 + 4 * p) 7 = nI n) ∧ I (1000 + 4 * p) 8 = nI (vcnt (I (1001 + 4 * p)) 10)) ∧
  (k = 4 → I 64 p = I (1000 + 4 * p) 24 ∧ I 65 p = I (1000 + 4 * p) 25) ∧ (k = 5 → I 64 p = I (1000 + 4 * p) 5)
def vP (I : hq_I) (ks : List Nat) : Prop := (I 0 35 = nI ks.length ∧ I 51 46 = nI ks.length ∧ ks.length ≤ 40) ∧ (∀ p k, ks[p]? = some k → vP1 I p k) ∧ ∀ p, ks.length ≤ p → p < 40 → I 59 p = 0 ∧ I 66 p = 0
/-- which kind a machine takes for a step -/
def vkf (w : Nat) : Nat := if w = 0 then 1 else if w = 1 then 5 else if w = 2 then 4 else if w = 3 then 2 else 3
def vbit (n w : Nat) : Prop := n / 2 ^ w % 2 = 1
/-- a machine that has begun: steps, order, habits, what it holds and runs -/
def vM1 (I : hq_I) (ks : List Nat) (m : Nat) : Prop :=
  (∃ s a b, s ≤ 5 ∧ a < 32 ∧ b < 8 ∧ I 69 m = nI s ∧ I (32 + 5 * m) 14 = nI s ∧ I (32 + 5 * m) 15 = nI a ∧ I (32 + 5 * m) 16 = nI b ∧
    (∀ k, k < s → I 68 (5 * m + k) = I (33 + 5 * m) k ∧ ∃ w, w < 5 ∧ I (33 + 5 * m) k = nI w) ∧ (∀ w, w < 5 → (vbit a w ↔ ∃ k, k < s ∧ I (33 + 5 * m) k = nI w)) ∧
    I 70 m = mj_b (b % 2 = 1) ∧ I 71 m = mj_b (b / 2 % 2 = 1) ∧ I 72 m = mj_b (b / 4 % 2 = 1)) ∧
  (∀ w, w < 5 → I 73 (5 * m + w) = I (34 + 5 * m) w ∧ (I (34 + 5 * m) w = -9 ∧ w ≠ 0 ∨ ∃ p, I (34 + 5 * m) w = nI p ∧ ks[p]? = some (vkf w))) ∧
  ∀ f, f < 10 → I 74 (10 * m + f) = I (35 + 5 * m) f
def vM (I : hq_I) (ks : List Nat) : Prop := ∀ m, m < 4 → I 67 m = I (31 + 5 * m) 12 ∧ (I (31 + 5 * m) 12 = 0 ∨ I (31 + 5 * m) 12 = 1 ∧ vM1 I ks m)
def Inv (I : hq_I) (J : hq_J) (ks : List Nat) (sl : Nat) : Prop := vF I ∧ vA I J ∧ vD I ∧ vR I ∧ vT I ∧ vX I ∧ vP I ks ∧ vM I ks ∧ sl ≤ 4000 + 30 * ks.length
/-- a call of the class, then of the model: the same answer, and all of that holds again -/
def S2 (V : mj_V) (cm mm : Nat) (lc lm : mj_L) : Prop := ∀ (I : hq_I) (J : hq_J) (ks : List Nat) (sl : Nat), Inv I J ks sl → ∃ (v : Value) (I1 : hq_I) (J1 : hq_J) (ks1 : List Nat) (sl1 : Nat) (I2 : hq_I) (J2 : hq_J),
  mj_ev V cm 0 lc [] (hp V I J ks ks.length sl) = some (some v, hp V I1 J1 ks1 ks1.length sl1) ∧ mj_ev V mm 0 lm [] (hp V I1 J1 ks1 ks1.length sl1) = some (some v, hp V I2 J2 ks1 ks1.length sl1) ∧ Inv I2 J2 ks1 sl1
theorem vF.congr {I I' : hq_I} (h : vF I) (h0 : I' 0 37 = I 0 37) (h1 : I' 51 70 = I 51 70) (h2 : I' 6 = I 6) (h3 : I' 76 = I 76) : vF I' := by
  unfold vF at *
  rw [h0, h1, h2, h3]
  exact h
theorem vA.congr {I I' : hq_I} {J : hq_J} (h : vA I J) (h0 : I' 0 38 = I 0 38) (h1 : I' 51 67 = I 51 67) : vA I' J := by
  unfold vA at *
  rw [h0, h1]
  exact h
theorem vD.congr {I I' : hq_I} (h : vD I) (h0 : I' 0 36 = I 0 36) (h1 : I' 51 45 = I 51 45) : vD I' := by
  unfold vD at *
  rw [h0, h1]
  exact h
theorem vR1.congr {I I' : hq_I} {r : Nat} (h : vR1 I r) (h0 : I' 53 r = I 53 r) (h1 : I' (11 + 2 * r) 21 = I (11 + 2 * r) 21) (h2 : ∀ i, i < 40 → I' 52 (40 * r + i) = I 52 (40 * r + i)) (h3 : I' (12 + 2 * r) = I (12 + 2 * r)) : vR1 I' r := by
  unfold vR1 at *
  rw [h0, h1, h3]
  refine ⟨h.1, h.2.1, fun i hi => ?_⟩
  rw [h2 i (by have := h.2.1; omega)]
  exact h.2.2 i hi
theorem vR.congr {I I' : hq_I} (h : vR I) (h0 : I' 53 = I 53) (h1 : ∀ k, 11 ≤ k → k < 23 → I' k = I k) (h2 : I' 52 = I 52) : vR I' :=
  fun r hr => (h r hr).congr (by rw [h0]) (by rw [h1 _ (by omega) (by omega)]) (fun i _ => by rw [h2]) (h1 _ (by omega) (by omega))
theorem vT1.congr {I I' : hq_I} {r : Nat} (h : vT1 I r) (h0 : I' 55 r = I 55 r) (h1 : I' (23 + 2 * r) 23 = I (23 + 2 * r) 23) (h2 : ∀ i, i < 40 → I' 54 (40 * r + i) = I 54 (40 * r + i)) (h3 : I' (24 + 2 * r) = I (24 + 2 * r)) : vT1 I' r := by
  unfold vT1 at *
  rw [h0, h1, h3]
  refine ⟨h.1, h.2.1, fun i hi => ?_⟩
  rw [h2 i (by have := h.2.1; omega)]
  exact h.2.2 i hi
theorem vT.congr {I I' : hq_I} (h : vT I) (h0 : I' 55 = I 55) (h1 : ∀ k, 23 ≤ k → k < 31 → I' k = I k) (h2 : I' 54 = I 54) : vT I' :=
  fun r hr => (h r hr).congr (by rw [h0]) (by rw [h1 _ (by omega) (by omega)]) (fun i _ => by rw [h2]) (h1 _ (by omega) (by omega))
theorem vX.congr {I I' : hq_I} (h : vX I) (h0 : I' 5 = I 5) (h1 : I' 75 = I 75) : vX I' := by
  unfold vX at *
  rw [h0, h1]
  exact h
theorem vP1.congr {I I' : hq_I} {p k : Nat} (h : vP1 I p k) (h0 : ∀ j, 56 ≤ j → j ≤ 66 → I' j = I j) (h1 : ∀ j, 1000 ≤ j → I' j = I j) : vP1 I' p k := by
  unfold vP1 at *
  rw [h0 56 (by omega) (by omega), h0 57 (by omega) (by omega), h0 58 (by omega) (by omega), h0 59 (by omega) (by omega), h0 60 (by omega) (by omega), h0 61 (by omega) (by omega), h0 62 (by omega) (by omega), h0 63 (by omega) (by omega), h0 64 (by omega) (by omega), h0 65 (by omega) (by omega), h0 66 (by omega) (by omega), h1 (1000 + 4 * p) (by omega), h1 (1001 + 4 * p) (by omega), h1 (1002 + 4 * p) (by omega)]
  exact h
theorem vP.congr {I I' : hq_I} {ks : List Nat} (h : vP I ks) (h0 : ∀ j, 56 ≤ j → j ≤ 66 → I' j = I j) (h1 : ∀ j, 1000 ≤ j → I' j = I j) (h2 : I' 0 35 = I 0 35) (h3 : I' 51 46 = I 51 46) : vP I' ks := by
  refine ⟨by rw [h2, h3]; exact h.1, fun p k hp => (h.2.1 p k hp).congr h0 h1, fun p h4 h5 => ?_⟩
  rw [h0 59 (by omega) (by omega), h0 66 (by omega) (by omega)]
  exact h.2.2 p h4 h5
theorem vM1.congr {I I' : hq_I} {ks : List Nat} {m : Nat} (h : vM1 I ks m) (h0 : ∀ j, 68 ≤ j → j ≤ 74 → I' j = I j) (h1 : ∀ j, 32 + 5 * m ≤ j → j ≤ 35 + 5 * m → I' j = I j) : vM1 I' ks m := by
  unfold vM1 at *
  rw [h0 68 (by omega) (by omega), h0 69 (by omega) (by omega), h0 70 (by omega) (by omega), h0 71 (by omega) (by omega), h0 72 (by omega) (by omega), h0 73 (by omega) (by omega), h0 74 (by omega) (by omega), h1 (32 + 5 * m) (by omega) (by omega), h1 (33 + 5 * m) (by omega) (by omega), h1 (34 + 5 * m) (by omega) (by omega), h1 (35 + 5 * m) (by omega) (by omega)]
  exact h
theorem vM.congr {I I' : hq_I} {ks : List Nat} (h : vM I ks) (h0 : ∀ j, 67 ≤ j → j ≤ 74 → I' j = I j) (h1 : ∀ j, 31 ≤ j → j < 51 → I' j = I j) : vM I' ks := by
  intro m hm
  obtain ⟨a, b⟩ := h m hm
  refine ⟨by rw [h0 67 (by omega) (by omega), h1 _ (by omega) (by omega)]; exact a, ?_⟩
  rw [h1 (31 + 5 * m) (by omega) (by omega)]
  rcases b with b | ⟨b, c⟩
  · exact Or.inl b
  · exact Or.inr ⟨b, c.congr (fun j h2 h3 => h0 j (by omega) h3) (fun j h2 h3 => h1 j (by omega) (by omega))⟩
/-- a refusal by a finding leaves all as it was, but the findings -/
theorem inv_find {I : hq_I} {J : hq_J} {ks : List Nat} {sl k : Nat} (h : Inv I J ks sl) (hk : k < 6) : Inv (dF (cF I k) k) J ks sl := by
  obtain ⟨a, b, c, d, e, f, g, i, j⟩ := h
  refine ⟨⟨?_, fun t ht => ?_⟩, b.congr ?_ ?_, c.congr ?_ ?_, d.congr ?_ ?_ ?_, e.congr ?_ ?_ ?_, f.congr ?_ ?_, g.congr ?_ ?_ ?_ ?_, i.congr ?_ ?_, j⟩
  all_goals unfold dF cF
  all_goals try (intros; simp (disch := omega) only [va_up_ne, va_up_self, pk_un]; done)
  · simp (disch := omega) only [va_up_ne, va_up_self, pk_us]
  · simp (disch := omega) only [va_up_ne, va_up_self, upd_a, a.2 t ht, a.2 k hk]
