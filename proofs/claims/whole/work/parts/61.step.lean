/-! a machine's root becomes another: all holds again -/
theorem inv_step {I : hq_I} {J : hq_J} {ks : List Nat} {sl m j : Nat} (hI : Inv I J ks sl) (hm : m < 4) (hj : ks[j]? = some 1) : Inv (dst m (cst m I j) j) J ks sl := by
  obtain ⟨vf, va, vd, vr, vt, vx, vp, vm, vl⟩ := hI
  have e66 : I 66 j = I (1000 + 4 * j) 4 := (vp.2.1 j 1 hj).2.2.2.2.1
  have c0 : ∀ id, id ≠ 66 → id ≠ 73 → id ≠ 34 + 5 * m → id ≠ 1000 + 4 * j → dst m (cst m I j) j id = I id := by
    intro id h1 h2 h3 h4
    unfold dst cst
    rw [va_up_ne _ _ h1, va_up_ne _ _ h2, va_up_ne _ _ h4, va_up_ne _ _ h3]
  have c1 : dst m (cst m I j) j (34 + 5 * m) = upd (I (34 + 5 * m)) 0 (nI j) := by
    unfold dst cst
    rw [va_up_ne _ _ (by omega), va_up_ne _ _ (by omega), va_up_ne _ _ (by omega), va_up_self]
  have c2 : dst m (cst m I j) j 73 = upd (I 73) (5 * m) (nI j) := by
    unfold dst cst
    rw [va_up_ne _ _ (by omega), va_up_self, va_up_ne _ _ (by omega), va_up_ne _ _ (by omega)]
  have c3 : dst m (cst m I j) j (1000 + 4 * j) = upd (I (1000 + 4 * j)) 4 (vgv (I (1000 + 4 * j) 4) m) := by
    unfold dst cst
    rw [va_up_ne _ _ (by omega), va_up_ne _ _ (by omega), va_up_self]
  have c4 : dst m (cst m I j) j 66 = upd (I 66) j (vgv (I (1000 + 4 * j) 4) m) := by
    unfold dst cst
    rw [va_up_self, va_up_ne _ _ (show 66 ≠ 1000 + 4 * j by omega), va_up_ne _ _ (show 66 ≠ 34 + 5 * m by omega), e66]
  refine ⟨vf.congr ?_ ?_ ?_ ?_, va.congr ?_ ?_, vd.congr ?_ ?_, vr.congr ?_ ?_ ?_, vt.congr ?_ ?_ ?_, vx.congr ?_ ?_, ?_, ?_, vl⟩
  all_goals try (intros; rw [c0 _ (by omega) (by omega) (by omega) (by omega)]; done)
  · have v1 : vP (va_up (va_up I (34 + 5 * m) (upd (I (34 + 5 * m)) 0 (nI j))) 73 (upd (I 73) (5 * m) (nI j))) ks := by
      refine vp.congr (fun id h1 h2 => ?_) (fun id h1 => ?_) ?_ ?_
      · rw [va_up_ne _ _ (by omega), va_up_ne _ _ (by omega)]
      · rw [va_up_ne _ _ (by omega), va_up_ne _ _ (by omega)]
      · rw [va_up_ne _ _ (by omega), va_up_ne _ _ (by omega)]
      · rw [va_up_ne _ _ (by omega), va_up_ne _ _ (by omega)]
    refine v1.cell (x := vgv (I (1000 + 4 * j) 4) m) (Or.inr ⟨rfl, rfl⟩) hj ?_ ?_ (fun id h1 h2 => ?_)
    · rw [c3, va_up_ne _ _ (by omega), va_up_ne _ _ (by omega)]
    · rw [c4, va_up_ne _ _ (by omega), va_up_ne _ _ (by omega)]
    · by_cases h73 : id = 73
      · rw [h73, c2, va_up_self]
      · by_cases h34 : id = 34 + 5 * m
        · rw [h34, c1, va_up_ne _ _ (by omega), va_up_self]
        · rw [c0 id h2 h73 h34 h1, va_up_ne _ _ h73, va_up_ne _ _ h34]
  · intro m' hm'
    obtain ⟨a, b⟩ := vm m' hm'
    refine ⟨?_, ?_⟩
    · rw [c0 67 (by omega) (by omega) (by omega) (by omega), c0 _ (by omega) (by omega) (by omega) (by omega)]
      exact a
    · rw [c0 (31 + 5 * m') (by omega) (by omega) (by omega) (by omega)]
      refine b.imp_right (fun b => ⟨b.1, ?_⟩)
      obtain ⟨d1, d2, d3⟩ := b.2
      unfold vM1
      rw [c0 68 (by omega) (by omega) (by omega) (by omega), c0 69 (by omega) (by omega) (by omega) (by omega), c0 70 (by omega) (by omega) (by omega) (by omega), c0 71 (by omega) (by omega) (by omega) (by omega), c0 72 (by omega) (by omega) (by omega) (by omega), c0 74 (by omega) (by omega) (by omega) (by omega), c0 (32 + 5 * m') (by omega) (by omega) (by omega) (by omega), c0 (33 + 5 * m') (by omega) (by omega) (by omega) (by omega), c0 (35 + 5 * m') (by omega) (by omega) (by omega) (by omega), c2]
      refine ⟨d1, fun w hw => ?_, d3⟩
      by_cases hmm : m' = m
      · subst hmm
        rw [c1]
        by_cases hw0 : w = 0
        · subst hw0
          rw [Nat.add_zero, upd_us, upd_us]
          exact ⟨rfl, Or.inr ⟨j, rfl, hj⟩⟩
        · rw [upd_ne (by omega), upd_ne hw0]
          exact d2 w hw
      · rw [c0 (34 + 5 * m') (by omega) (by omega) (by omega) (by omega), upd_ne (by omega)]
        exact d2 w hw
