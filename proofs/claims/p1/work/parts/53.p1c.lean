theorem t_0 : (0 : Int32).toNatClampNeg = 0 := by decide
theorem cl_0 (o : Ans) : chk (0 : Int32) 366 o = o := if_neg (by decide)
theorem t_1 : (1 : Int32).toNatClampNeg = 1 := by decide
theorem cl_1 (o : Ans) : chk (1 : Int32) 366 o = o := if_neg (by decide)
theorem t_2 : (2 : Int32).toNatClampNeg = 2 := by decide
theorem cl_2 (o : Ans) : chk (2 : Int32) 366 o = o := if_neg (by decide)
theorem t_3 : (3 : Int32).toNatClampNeg = 3 := by decide
theorem cl_3 (o : Ans) : chk (3 : Int32) 366 o = o := if_neg (by decide)
theorem t_4 : (4 : Int32).toNatClampNeg = 4 := by decide
theorem cl_4 (o : Ans) : chk (4 : Int32) 366 o = o := if_neg (by decide)
theorem t_5 : (5 : Int32).toNatClampNeg = 5 := by decide
theorem cl_5 (o : Ans) : chk (5 : Int32) 366 o = o := if_neg (by decide)
theorem t_6 : (6 : Int32).toNatClampNeg = 6 := by decide
theorem cl_6 (o : Ans) : chk (6 : Int32) 366 o = o := if_neg (by decide)
theorem t_7 : (7 : Int32).toNatClampNeg = 7 := by decide
theorem cl_7 (o : Ans) : chk (7 : Int32) 366 o = o := if_neg (by decide)
theorem t_8 : (8 : Int32).toNatClampNeg = 8 := by decide
theorem cl_8 (o : Ans) : chk (8 : Int32) 366 o = o := if_neg (by decide)
theorem t_9 : (9 : Int32).toNatClampNeg = 9 := by decide
theorem cl_9 (o : Ans) : chk (9 : Int32) 366 o = o := if_neg (by decide)
theorem t_10 : (10 : Int32).toNatClampNeg = 10 := by decide
theorem cl_10 (o : Ans) : chk (10 : Int32) 366 o = o := if_neg (by decide)
theorem t_11 : (11 : Int32).toNatClampNeg = 11 := by decide
theorem cl_11 (o : Ans) : chk (11 : Int32) 366 o = o := if_neg (by decide)
theorem t_12 : (12 : Int32).toNatClampNeg = 12 := by decide
theorem cl_12 (o : Ans) : chk (12 : Int32) 366 o = o := if_neg (by decide)

theorem mset_n {M : Mem} {i a : Nat} {f : Nat → Int32} (h : a ≠ i) : mset M i f a = M a := by unfold mset; rw [if_neg h]
theorem mup_n {M : Mem} {i j a : Nat} {v : Int32} (h : a ≠ i) : mup M i j v a = M a := mset_n h
theorem mup_s {M : Mem} {i j : Nat} {v : Int32} : mup M i j v i = upd (M i) j v := by unfold mup mset; rw [if_pos rfl]
theorem mset_s {M : Mem} {i : Nat} {f : Nat → Int32} : mset M i f i = f := by unfold mset; rw [if_pos rfl]
/-- a state is copied: nothing else is touched -/
theorem copy_fr (k q : Nat) (M : Mem) : wp (d_X5_copyFrom k q M) (fun r M1 => r = 0 ∧ ∀ i, (i < 16 * k ∨ 16 * k + 16 ≤ i) → M1 i = M i) := by
  simp only [d_X5_copyFrom, d_X4_copyFrom, d_X0_copyFrom, d_X7_copyFrom, wq_bd, wq_some, wq_bnd, true_and]
  intro i hi
  repeat (first | refine (mup_n (by unfold sI; omega)).trans ?_ | refine (mset_n (by unfold sI; omega)).trans ?_)
  rfl
theorem push_fr {M : Mem} (h1 : M 134 1 = 0) (h2 : M 135 0 = 3) : wp (d_X2_push 0 M) (fun _ M1 => ∀ i, i < 48 ∨ 136 ≤ i → M1 i = M i) := by
  simp only [d_X2_push, d_X2_push_B12, wq_bd, wq_some, wq_ite, wq_bnd, wq_chk, wq_stk, h1, h2, t_0, show (3 : Int32).toNatClampNeg = 3 from by decide]
  rw [if_pos (by decide), if_neg (by decide), if_pos (by decide)]
  refine ⟨by decide, by decide, wp_mono (copy_fr 3 0 M) (fun r M1 hM i hi => ?_)⟩
  rw [mup_n (by omega)]
  exact hM.2 i (by omega)
theorem begin_0 {M : Mem} (h : M 6 0 = 0) : wp (d_X1_begin 0 0 M) (fun _ M1 => M1 112 0 = M 0 0 ∧ M1 112 1 = M 0 1 ∧ M1 112 2 = M 0 2 ∧ M1 112 3 = M 0 3 ∧ M1 112 4 = 1000000 ∧ M1 112 5 = 0 ∧ M1 112 6 = 0 ∧ M1 112 7 = 0 ∧ ∀ i, i < 112 → M1 i = M i) := by
  simp only [d_X1_begin, d_X1_beginWith, ud_X1_beginWith_L51, d_X1_beginWith_L51_body, d_X1_beginWith_B164, wq_bd, wq_some, wq_ite, wq_bnd, sI, cI, Nat.mul_zero, Nat.zero_add, Nat.add_zero, Nat.reduceAdd, Nat.reduceMul, Nat.mul_one, mup_a, h]
  simp only [show ((6 : Nat) = 112) = False from by decide, show ((6 : Nat) = 118) = False from by decide, if_false, h]
  rw [if_pos (by decide)]
  simp [h]
  intro i hi
  repeat rw [mup_n (by omega)]
theorem toEnd_0 {M : Mem} (h : M 112 7 = 0) : d_X1_passToEnd 0 M = some (0, M) := by
  simp only [d_X1_passToEnd, ud_X1_passToEnd_L2, d_X1_passToEnd_L2_body, cI, Nat.mul_zero, Nat.add_zero, h]
  rw [if_neg (by decide), if_pos (by decide)]
theorem spoiled_0 {M : Mem} (h : M 112 6 = 0) : d_X1_countSpoiled 0 M = some (0, M) := by
  simp only [d_X1_countSpoiled, ud_X1_countSpoiled_L4, d_X1_countSpoiled_L4_body, cI, Nat.mul_zero, Nat.add_zero, h]
  rw [if_pos (by decide)]
theorem toEnd_wp {M : Mem} (h : M 6 0 = 0) : wp (d_X8_forecastToEnd M) (fun _ M1 => M1 112 6 = 0 ∧ ∀ i, i < 112 → M1 i = M i) := by
  simp only [d_X8_forecastToEnd, wq_bd]
  refine wp_mono (begin_0 h) (fun r M1 hM => ?_)
  rw [toEnd_0 hM.2.2.2.2.2.2.2.1]
  simp only [wq_some]
  exact ⟨hM.2.2.2.2.2.2.1, hM.2.2.2.2.2.2.2.2⟩
theorem doomed_0 {M : Mem} (h : M 6 0 = 0) : wp (d_X8_countDoomed M) (fun r _ => r = 0) := by
  simp only [d_X8_countDoomed, wq_bd]
  refine wp_mono (toEnd_wp h) (fun r M1 hM => ?_)
  rw [spoiled_0 hM.1]
  simp only [wq_some]
theorem p1_setHeat {M : Mem} (h : C0 M) (a : Int32) : wp (d_X8_setHeat a M) (fun r _ => r = if 0 ≤ a ∧ a ≤ 300 then (if a = 20 then -5 else 0) else -2) := by
  obtain ⟨h0, h1, h2, h3, h4, h5, h6, h7, h8, h9, h10, h11, h12, h13⟩ := c0_now h
  simp only [d_X8_setHeat, s_within, wq_bd, wq_some, wq_ite, wq_bnd, sI, cI, Nat.mul_zero, Nat.zero_add, Nat.add_zero, Nat.reduceAdd, Nat.reduceMul, Nat.mul_one, h3]
  by_cases c1 : 0 ≤ a ∧ a ≤ 300
  · simp only [if_pos c1]
    rw [if_neg (by decide)]
    by_cases c2 : a = 20
    · rw [if_pos c2, if_pos c2]
    · rw [if_neg c2, if_neg c2]
      refine wp_mono (push_fr h10 h13) (fun r M1 hM => ?_)
      refine wp_mono (doomed_0 ?_) (fun r M2 hr => hr)
      rw [mup_n (by decide), hM 6 (by decide)]
      exact h8
  · simp only [if_neg c1]
    simp
theorem p1_setMost {M : Mem} (h : C0 M) (a : Int32) : wp (d_X8_setMost a M) (fun r _ => r = if 100 ≤ a ∧ a ≤ 3000 then (if a = 1500 then -5 else if a < 900 then a else 900) else -2) := by
  obtain ⟨h0, h1, h2, h3, h4, h5, h6, h7, h8, h9, h10, h11, h12, h13⟩ := c0_now h
  simp only [d_X8_setMost, s_within, wq_bd, wq_some, wq_ite, wq_bnd, sI, cI, Nat.mul_zero, Nat.zero_add, Nat.add_zero, Nat.reduceAdd, Nat.reduceMul, Nat.mul_one, h2]
  by_cases c1 : 100 ≤ a ∧ a ≤ 3000
  · simp only [if_pos c1]
    rw [if_neg (by decide)]
    by_cases c2 : a = 1500
    · rw [if_pos c2, if_pos c2]
    · rw [if_neg c2, if_neg c2]
      refine wp_mono (push_fr h10 h13) (fun r M1 hM => ?_)
      simp only [mup_a]
      simp only [if_true, hM 0 (by decide), h1, imin]
      simp
  · simp only [if_neg c1]
    simp
theorem p1_fall {M : Mem} (h : C0 M) (a : Int32) : wp (d_X8_fall a M) (fun r _ => r = if 1 ≤ a ∧ a ≤ 3000 then 0 else -2) := by
  obtain ⟨h0, h1, h2, h3, h4, h5, h6, h7, h8, h9, h10, h11, h12, h13⟩ := c0_now h
  simp only [d_X8_fall, s_within, wq_bd, wq_some, wq_ite, wq_bnd, sI, cI, Nat.mul_zero, Nat.zero_add, Nat.add_zero, Nat.reduceAdd, Nat.reduceMul, Nat.mul_one, h1]
  by_cases c1 : 1 ≤ a ∧ a ≤ 3000
  · simp only [if_pos c1]
    rw [if_neg (by decide), if_neg (by decide)]
    refine wp_mono (push_fr h10 h13) (fun r M1 hM => ?_)
    refine wp_mono (doomed_0 ?_) (fun r M2 hr => hr)
    rw [mup_n (by decide), hM 6 (by decide)]
    exact h8
  · simp only [if_neg c1]
    simp
theorem p1_addRecipe {M : Mem} (h : C0 M) (a b c d : Int32) : wp (d_X8_addRecipe a b c d M) (fun r _ => r = if (0 ≤ a ∧ a ≤ 3000) ∧ (1 ≤ b ∧ b ≤ 500) ∧ (1 ≤ c ∧ c ≤ 20) ∧ (0 ≤ d ∧ d ≤ 9) then 0 else -2) := by
  obtain ⟨h0, h1, h2, h3, h4, h5, h6, h7, h8, h9, h10, h11, h12, h13⟩ := c0_now h
  have key : ∀ M1 : Mem, (∀ i, i < 48 ∨ 136 ≤ i → M1 i = M i) → wp (d_X4_append 0 a b c d M1) (fun r _ => r = 0) := by
    intro M1 hM
    have e : M1 1 0 = 0 := by rw [hM 1 (by decide)]; exact h7
    simp only [d_X4_append, wq_ite, wq_chk, wq_bd, wq_some, wq_bnd, sI, Nat.mul_zero, Nat.zero_add, mup_a, e]
    simp [e]
  have kb : ∀ M1 : Mem, M1 = M → wp (d_X8_addRecipe_B47 a b c d M1) (fun r _ => r = -2) := by
    intro M1 _
    simp only [d_X8_addRecipe_B47, d_X8_addRecipe_B48, wq_ite, wq_some]
    simp
  simp only [d_X8_addRecipe, s_within, wq_bd, wq_some, wq_ite, wq_bnd, sI, Nat.mul_zero, Nat.zero_add, h7]
  by_cases c1 : 0 ≤ a ∧ a ≤ 3000
  · rw [if_pos c1, if_neg (by decide)]
    by_cases c2 : 1 ≤ b ∧ b ≤ 500
    · rw [if_pos c2, if_neg (by decide)]
      by_cases c3 : 1 ≤ c ∧ c ≤ 20
      · rw [if_pos c3, if_neg (by decide)]
        by_cases c4 : 0 ≤ d ∧ d ≤ 9
        · rw [if_pos c4, if_neg (by decide), if_pos ⟨c1, c2, c3, c4⟩]
          simp only [d_X8_addRecipe_B48, wq_ite, wq_some, wq_bd, sI, Nat.mul_zero, Nat.zero_add, h7]
          rw [if_neg (by decide), if_pos (by decide)]
          refine wp_mono (push_fr h10 h13) (fun r M1 hM => ?_)
          exact key M1 hM
        · rw [if_neg c4, if_pos rfl, if_neg (fun z => c4 z.2.2.2)]
          exact kb M rfl
      · rw [if_neg c3, if_pos rfl, if_neg (fun z => c3 z.2.2.1)]
        exact kb M rfl
    · rw [if_neg c2, if_pos rfl, if_neg (fun z => c2 z.2.1)]
      exact kb M rfl
  · rw [if_neg c1, if_pos rfl, if_neg (fun z => c1 z.1)]
    exact kb M rfl
