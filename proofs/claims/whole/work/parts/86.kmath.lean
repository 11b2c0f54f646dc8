/-! promise 36: askings. Sets of keys, by bits -/
theorem tbd (n i : Nat) : n / 2 ^ i % 2 = (n.testBit i).toNat := by
  rw [Nat.testBit_eq_decide_div_mod_eq]
  by_cases h : n / 2 ^ i % 2 = 1
  · rw [decide_eq_true h, h]
    rfl
  · rw [decide_eq_false h]
    have : n / 2 ^ i % 2 < 2 := Nat.mod_lt _ (by omega)
    show n / 2 ^ i % 2 = 0
    omega
theorem b10_bits (n : Nat) : b10 n = (n.testBit 0).toNat + (n.testBit 1).toNat + (n.testBit 2).toNat + (n.testBit 3).toNat + (n.testBit 4).toNat + (n.testBit 5).toNat + (n.testBit 6).toNat + (n.testBit 7).toNat + (n.testBit 8).toNat + (n.testBit 9).toNat := by
  have h0 := tbd n 0
  have h1 := tbd n 1
  have h2 := tbd n 2
  have h3 := tbd n 3
  have h4 := tbd n 4
  have h5 := tbd n 5
  have h6 := tbd n 6
  have h7 := tbd n 7
  have h8 := tbd n 8
  have h9 := tbd n 9
  rw [← h0, ← h1, ← h2, ← h3, ← h4, ← h5, ← h6, ← h7, ← h8, ← h9]
  unfold b10
  simp only [Nat.pow_zero, Nat.div_one, Nat.reducePow]
theorem b10_mono {x y : Nat} (h : ∀ i, x.testBit i = true → y.testBit i = true) : b10 x ≤ b10 y := by
  have k : ∀ i, (x.testBit i).toNat ≤ (y.testBit i).toNat := by
    intro i
    cases hx : x.testBit i with
    | false => exact Nat.zero_le _
    | true => rw [h i hx]; exact Nat.le_refl _
  rw [b10_bits, b10_bits]
  have k0 := k 0
  have k1 := k 1
  have k2 := k 2
  have k3 := k 3
  have k4 := k 4
  have k5 := k 5
  have k6 := k 6
  have k7 := k 7
  have k8 := k 8
  have k9 := k 9
  omega
theorem b10_and {s s' k : Nat} (h : ∀ i, s.testBit i = true → s'.testBit i = true) : b10 (s &&& k) ≤ b10 (s' &&& k) := by
  refine b10_mono (fun i hi => ?_)
  rw [Nat.testBit_and] at hi ⊢
  rw [Bool.and_eq_true] at hi ⊢
  exact ⟨h i hi.1, hi.2⟩
theorem b10_andl (s k : Nat) : b10 (s &&& k) ≤ b10 s := by
  refine b10_mono (fun i hi => ?_)
  rw [Nat.testBit_and, Bool.and_eq_true] at hi
  exact hi.1
theorem b10_andr (s k : Nat) : b10 (s &&& k) ≤ b10 k := by
  refine b10_mono (fun i hi => ?_)
  rw [Nat.testBit_and, Bool.and_eq_true] at hi
  exact hi.2
theorem b10_more : ∀ s, s < 1023 → b10 (s ||| (s + 1)) = b10 s + 1 ∧ s ||| (s + 1) < 1024 := by decide +kernel
theorem b10_less : ∀ s, s < 1024 → s = 0 ∨ b10 (s &&& (s - 1)) + 1 = b10 s := by decide +kernel
theorem b10_1023 : b10 1023 = 10 := by decide
/-- a set of few keys lies in one of just c -/
theorem k_up {c : Nat} (hc : c ≤ 10) : ∀ (d s : Nat), s < 1024 → b10 s + d = c → ∃ s', s' < 1024 ∧ b10 s' = c ∧ ∀ i, s.testBit i = true → s'.testBit i = true
  | 0, s, hs, h => ⟨s, hs, h, fun _ h => h⟩
  | d + 1, s, hs, h => by
    have hne : s ≠ 1023 := fun e => by rw [e, b10_1023] at h; omega
    obtain ⟨h1, h2⟩ := b10_more s (by omega)
    obtain ⟨s', h3, h4, h5⟩ := k_up hc d (s ||| (s + 1)) h2 (by omega)
    refine ⟨s', h3, h4, fun i hi => h5 i ?_⟩
    rw [Nat.testBit_or, hi]
    rfl
/-- a set of keys has sets of any lesser size in it -/
theorem k_down {m : Nat} : ∀ (d s : Nat), s < 1024 → b10 s = m + d → ∃ s', s' < 1024 ∧ b10 s' = m ∧ ∀ i, s'.testBit i = true → s.testBit i = true
  | 0, s, hs, h => ⟨s, hs, h, fun _ h => h⟩
  | d + 1, s, hs, h => by
    have h1 : b10 (s &&& (s - 1)) + 1 = b10 s := by
      rcases b10_less s hs with e | e
      · rw [e] at h
        have : b10 0 = 0 := by decide
        omega
      · exact e
    obtain ⟨s', h3, h4, h5⟩ := k_down (m := m) d (s &&& (s - 1)) (Nat.lt_of_le_of_lt Nat.and_le_left hs) (by omega)
    refine ⟨s', h3, h4, fun i hi => ?_⟩
    have := h5 i hi
    rw [Nat.testBit_and, Bool.and_eq_true] at this
    exact this.1
def kfew (K : Nat → Nat) (c h t l : Nat) : Prop := ∃ s, s < 1024 ∧ b10 s = c ∧ h ≤ b10 (s &&& K 1) ∧ t ≤ b10 (s &&& K 2) ∧ l ≤ b10 (s &&& K 3)
def kvl (K : Nat → Nat) (th c h t l : Nat) : Prop := (h ≤ b10 (K 1 &&& th) ∧ t ≤ b10 (K 2 &&& th) ∧ l ≤ b10 (K 3 &&& th)) ∧ ¬ kfew K c h t l
def ksafe (K : Nat → Nat) (c f h t l : Nat) : Prop := ∀ s, s < 1024 → b10 s ≤ c → ¬ ((h ≤ b10 (s &&& K 1) ∧ t ≤ b10 (s &&& K 2) ∧ l ≤ b10 (s &&& K 3)) ∨ f ≤ b10 (s &&& K 0))
def ksign (K : Nat → Nat) (th f h t l : Nat) : Prop := f ≤ b10 (th &&& K 0) ∧ h ≤ b10 (th &&& K 1) ∧ t ≤ b10 (th &&& K 2) ∧ l ≤ b10 (th &&& K 3)
theorem k_main {K : Nat → Nat} {th c f h t l : Nat} (hK : K 0 < 1024) (hc : c ≤ 4) : (ksign K th f h t l ∧ ksafe K c f h t l) ↔ ((c + 1 ≤ f ∧ f ≤ b10 (K 0 &&& th)) ∧ kvl K th c h t l) := by
  unfold ksign kvl
  rw [Nat.and_comm (K 0), Nat.and_comm (K 1), Nat.and_comm (K 2), Nat.and_comm (K 3)]
  constructor
  · rintro ⟨⟨a1, a2, a3, a4⟩, hs⟩
    refine ⟨⟨?_, a1⟩, ⟨a2, a3, a4⟩, ?_⟩
    · refine Classical.byContradiction (fun hf => ?_)
      have hk : f ≤ b10 (K 0) := Nat.le_trans a1 (b10_andr _ _)
      obtain ⟨s, h1, h2, h3⟩ := k_down (m := f) (b10 (K 0) - f) (K 0) hK (by omega)
      refine hs s h1 (by omega) (Or.inr ?_)
      have h4 : b10 s ≤ b10 (s &&& K 0) := by
        refine b10_mono (fun i hi => ?_)
        rw [Nat.testBit_and, Bool.and_eq_true]
        exact ⟨hi, h3 i hi⟩
      omega
    · rintro ⟨s, h1, h2, h3⟩
      exact hs s h1 (by omega) (Or.inl h3)
  · rintro ⟨⟨hf, a1⟩, ⟨a2, a3, a4⟩, hn⟩
    refine ⟨⟨a1, a2, a3, a4⟩, fun s h1 h2 h3 => ?_⟩
    rcases h3 with ⟨b1, b2, b3⟩ | h3
    · obtain ⟨s', h4, h5, h6⟩ := k_up (c := c) (by omega) (c - b10 s) s h1 (by omega)
      exact hn ⟨s', h4, h5, Nat.le_trans b1 (b10_and h6), Nat.le_trans b2 (b10_and h6), Nat.le_trans b3 (b10_and h6)⟩
    · have := b10_andl s (K 0)
      omega
/-- the first of the cheapest that may be taken -/
noncomputable def kf (v : Nat → Prop) (p k : Nat → Nat) : Nat → Option (Nat × Nat)
  | 0 => none
  | n + 1 => @ite _ (v n ∧ ∀ q, kf v p k n = some q → p n < q.1) (Classical.propDecidable _) (some (p n, k n)) (kf v p k n)
theorem kf_y {v : Nat → Prop} {p k : Nat → Nat} {n : Nat} (h : v n) (h2 : ∀ q, kf v p k n = some q → p n < q.1) : kf v p k (n + 1) = some (p n, k n) := if_pos ⟨h, h2⟩
theorem kf_n {v : Nat → Prop} {p k : Nat → Nat} {n : Nat} (h : ¬ (v n ∧ ∀ q, kf v p k n = some q → p n < q.1)) : kf v p k (n + 1) = kf v p k n := if_neg h
theorem kf_skip {v : Nat → Prop} {p k : Nat → Nat} : ∀ (d i : Nat), (∀ b, i ≤ b → b < i + d → ¬ v b) → kf v p k (i + d) = kf v p k i
  | 0, i, h => rfl
  | d + 1, i, h => by
    rw [show i + (d + 1) = i + d + 1 by omega, kf_n (fun e => h (i + d) (by omega) (by omega) e.1)]
    exact kf_skip d i (fun b h1 h2 => h b h1 (by omega))
def kopt (v : Nat → Prop) (p k : Nat → Nat) (n : Nat) (o : Option (Nat × Nat)) : Prop := (o = none ∧ ∀ a, a < n → ¬ v a) ∨ ∃ a0, a0 < n ∧ v a0 ∧ o = some (p a0, k a0) ∧ (∀ a, a < n → v a → p a0 ≤ p a) ∧ ∀ a, a < a0 → v a → p a0 < p a
theorem kf_opt {v : Nat → Prop} {p k : Nat → Nat} : ∀ n, kopt v p k n (kf v p k n)
  | 0 => Or.inl ⟨rfl, fun a h => by omega⟩
  | n + 1 => by
    have ih := kf_opt (v := v) (p := p) (k := k) n
    by_cases hy : v n ∧ ∀ q, kf v p k n = some q → p n < q.1
    · rw [kf_y hy.1 hy.2]
      refine Or.inr ⟨n, by omega, hy.1, rfl, fun a ha hva => ?_, fun a ha hva => ?_⟩
      · by_cases han : a = n
        · rw [han]
          exact Nat.le_refl _
        · rcases ih with ⟨h1, h2⟩ | ⟨a0, h1, h2, h3, h4, h5⟩
          · exact absurd hva (h2 a (by omega))
          · have h6 := hy.2 _ h3
            have h7 := h4 a (by omega) hva
            have h6 : p n < p a0 := h6
            omega
      · rcases ih with ⟨h1, h2⟩ | ⟨a0, h1, h2, h3, h4, h5⟩
        · exact absurd hva (h2 a ha)
        · have h6 : p n < p a0 := hy.2 _ h3
          have h7 := h4 a ha hva
          omega
    · rw [kf_n hy]
      rcases ih with ⟨h1, h2⟩ | ⟨a0, h1, h2, h3, h4, h5⟩
      · refine Or.inl ⟨h1, fun a ha => ?_⟩
        by_cases han : a = n
        · rw [han]
          intro hv
          refine hy ⟨hv, fun q hq => ?_⟩
          rw [h1] at hq
          cases hq
        · exact h2 a (by omega)
      · refine Or.inr ⟨a0, by omega, h2, h3, fun a ha hva => ?_, h5⟩
        by_cases han : a = n
        · subst han
          refine Nat.le_of_not_lt (fun hlt => hy ⟨hva, fun q hq => ?_⟩)
          rw [h3] at hq
          cases hq
          exact hlt
        · exact h4 a (by omega) hva
theorem kopt_some {v : Nat → Prop} {p k : Nat → Nat} {n a0 : Nat} {o : Option (Nat × Nat)} (h : kopt v p k n o) (h1 : a0 < n) (h2 : v a0) (h4 : ∀ a, a < n → v a → p a0 ≤ p a) (h5 : ∀ a, a < a0 → v a → p a0 < p a) : o = some (p a0, k a0) := by
  rcases h with ⟨g1, g2⟩ | ⟨a1, g1, g2, g3, g4, g5⟩
  · exact absurd h2 (g2 a0 h1)
  · have e1 := h4 a1 g1 g2
    have e2 := g4 a0 h1 h2
    have e3 : a1 = a0 := by
      rcases Nat.lt_trichotomy a1 a0 with e | e | e
      · have := h5 a1 e g2
        omega
      · exact e
      · have := g5 a0 e h2
        omega
    rw [g3, e3]
theorem kopt_none {v : Nat → Prop} {p k : Nat → Nat} {n : Nat} {o : Option (Nat × Nat)} (h : kopt v p k n o) (h2 : ∀ a, a < n → ¬ v a) : o = none := by
  rcases h with ⟨g1, g2⟩ | ⟨a1, g1, g2, g3, g4, g5⟩
  · exact g1
  · exact absurd g2 (h2 a1 g1)
section KA
variable (K : Nat → Nat) (th c : Nat) (P : Nat → Nat)
/-- the class's askings: three roles, by their number in order -/
def kvb (b : Nat) : Prop := kvl K th c (b / 16 + 1) (b / 4 % 4 + 1) (b % 4 + 1)
def kpb (b : Nat) : Nat := (b / 16 + 1) * P 1 + (b / 4 % 4 + 1) * P 2 + (b % 4 + 1) * P 3
def kkb (b : Nat) : Nat := 100 * (b / 16 + 1) + 10 * (b / 4 % 4 + 1) + (b % 4 + 1)
/-- the model's: four -/
def kva (a : Nat) : Prop := ksign K th (a / 64 + 1) (a / 16 % 4 + 1) (a / 4 % 4 + 1) (a % 4 + 1) ∧ ksafe K c (a / 64 + 1) (a / 16 % 4 + 1) (a / 4 % 4 + 1) (a % 4 + 1)
def kpa (a : Nat) : Nat := (a / 64 + 1) * P 0 + (a / 16 % 4 + 1) * P 1 + (a / 4 % 4 + 1) * P 2 + (a % 4 + 1) * P 3
def kka (a : Nat) : Nat := 1000 * (a / 64 + 1) + 100 * (a / 16 % 4 + 1) + 10 * (a / 4 % 4 + 1) + (a % 4 + 1)
end KA
theorem k_split {K : Nat → Nat} {th c : Nat} {P : Nat → Nat} (hK : K 0 < 1024) (hc : c ≤ 4) {a : Nat} (ha : a < 256) : (kva K th c a ↔ ((c ≤ a / 64 ∧ a / 64 + 1 ≤ b10 (K 0 &&& th)) ∧ kvb K th c (a % 64))) ∧ kpa P a = (a / 64 + 1) * P 0 + kpb P (a % 64) ∧ kka a = 1000 * (a / 64 + 1) + kkb (a % 64) := by
  have e1 : a % 64 / 16 = a / 16 % 4 := by omega
  have e2 : a % 64 / 4 % 4 = a / 4 % 4 := by omega
  have e3 : a % 64 % 4 = a % 4 := by omega
  refine ⟨?_, ?_, ?_⟩
  · unfold kva kvb
    rw [k_main hK hc, e1, e2, e3]
    constructor
    · rintro ⟨⟨h1, h2⟩, h3⟩
      exact ⟨⟨by omega, h2⟩, h3⟩
    · rintro ⟨⟨h1, h2⟩, h3⟩
      exact ⟨⟨by omega, h2⟩, h3⟩
  · unfold kpa kpb
    rw [e1, e2, e3]
    omega
  · unfold kka kkb
    rw [e1, e2, e3]
    omega
theorem k_all {K : Nat → Nat} {th c : Nat} {P : Nat → Nat} (hK : K 0 < 1024) (hc : c ≤ 4) : (c + 1 ≤ 4 ∧ c + 1 ≤ b10 (K 0 &&& th) → kf (kva K th c) (kpa P) kka 256 = (kf (kvb K th c) (kpb P) kkb 64).map (fun q => (q.1 + (c + 1) * P 0, 1000 * (c + 1) + q.2))) ∧ (¬ (c + 1 ≤ 4 ∧ c + 1 ≤ b10 (K 0 &&& th)) → kf (kva K th c) (kpa P) kka 256 = none) := by
  have G := kf_opt (v := kva K th c) (p := kpa P) (k := kka) 256
  have hs := fun (a : Nat) (ha : a < 256) => k_split (K := K) (th := th) (c := c) (P := P) hK hc ha
  constructor
  · rintro ⟨h4, h0⟩
    rcases kf_opt (v := kvb K th c) (p := kpb P) (k := kkb) 64 with ⟨g1, g2⟩ | ⟨b0, g1, g2, g3, g4, g5⟩
    · rw [g1]
      exact kopt_none G (fun a ha hv => g2 (a % 64) (by omega) ((hs a ha).1.mp hv).2)
    · rw [g3]
      have hb : 64 * c + b0 < 256 := by omega
      have d1 : (64 * c + b0) / 64 = c := by omega
      have d2 : (64 * c + b0) % 64 = b0 := by omega
      obtain ⟨s1, s2, s3⟩ := hs (64 * c + b0) hb
      rw [d1, d2] at s1 s2 s3
      have hmin : ∀ a, a < 256 → kva K th c a → (c + 1) * P 0 ≤ (a / 64 + 1) * P 0 ∧ kpb P b0 ≤ kpb P (a % 64) := by
        intro a ha hv
        have w := (hs a ha).1.mp hv
        exact ⟨Nat.mul_le_mul_right _ (by omega), g4 (a % 64) (by omega) w.2⟩
      have R := kopt_some G hb (s1.mpr ⟨⟨Nat.le_refl _, h0⟩, g2⟩) (fun a ha hv => by
        rw [s2, (hs a ha).2.1]
        have := hmin a ha hv
        omega) (fun a ha hv => by
        have w := (hs a (by omega)).1.mp hv
        have e : a / 64 = c := by omega
        rw [s2, (hs a (by omega)).2.1, e]
        have := g5 (a % 64) (by omega) w.2
        omega)
      rw [R, s2, s3]
      show some ((c + 1) * P 0 + kpb P b0, 1000 * (c + 1) + kkb b0) = some (kpb P b0 + (c + 1) * P 0, 1000 * (c + 1) + kkb b0)
      rw [Nat.add_comm]
  · intro hn
    refine kopt_none G (fun a ha hv => ?_)
    have w := (hs a ha).1.mp hv
    exact hn ⟨by omega, by omega⟩
theorem kf_ex {v : Nat → Prop} {p k : Nat → Nat} {n : Nat} {q : Nat × Nat} (h : kf v p k n = some q) : ∃ a, a < n ∧ v a ∧ q = (p a, k a) := by
  rcases kf_opt (v := v) (p := p) (k := k) n with ⟨g1, g2⟩ | ⟨a0, g1, g2, g3, g4, g5⟩
  · rw [g1] at h
    cases h
  · rw [g3] at h
    cases h
    exact ⟨a0, g1, g2, rfl⟩
