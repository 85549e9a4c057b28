theorem no0 (v : Int32) : ¬ (0 ≤ v ∧ v < 0) := fun h => Int32.not_lt.mpr h.1 h.2
theorem no1 (v : Int32) : ¬ (0 ≤ v ∧ v ≤ 0 - 1) := fun h => by
  have h1 := le_toInt.mp h.1
  have h2 := le_toInt.mp h.2
  have e0 : (0 : Int32).toInt = 0 := rfl
  have e1 : (0 - 1 : Int32).toInt = -1 := rfl
  omega
theorem p1_book {M : Mem} (h : C0 M) (a b c : Int32) : wp (d_X8_book a b c M) (fun r _ => r = -1) := by
  obtain ⟨h0, h1, h2, h3, h4, h5, h6, h7, h8, h9, h10, h11, h12, h13⟩ := c0_now h
  simp only [d_X8_book, d_X8_errorOfBooking, s_isRobot, s_has4, wq_bd, wq_some, wq_ite, sI, cI, Nat.mul_zero, Nat.zero_add, Nat.add_zero, h7, if_neg (no0 b)]
  first | done | simp | (split <;> simp)
theorem p1_cancel {M : Mem} (h : C0 M) (a : Int32) : wp (d_X8_cancel a M) (fun r _ => r = -1) := by
  obtain ⟨h0, h1, h2, h3, h4, h5, h6, h7, h8, h9, h10, h11, h12, h13⟩ := c0_now h
  simp only [d_X8_cancel, s_has0, wq_bd, wq_some, wq_ite, sI, cI, Nat.mul_zero, Nat.zero_add, Nat.add_zero, h8, if_neg (no0 a)]
  first | done | simp | (split <;> simp)
theorem p1_move {M : Mem} (h : C0 M) (a b : Int32) : wp (d_X8_move a b M) (fun r _ => r = -1) := by
  obtain ⟨h0, h1, h2, h3, h4, h5, h6, h7, h8, h9, h10, h11, h12, h13⟩ := c0_now h
  simp only [d_X8_move, s_has0, wq_bd, wq_some, wq_ite, sI, cI, Nat.mul_zero, Nat.zero_add, Nat.add_zero, h8, if_neg (no0 a)]
  first | done | simp | (split <;> simp)
theorem p1_wish {M : Mem} (h : C0 M) (a b c : Int32) : wp (d_X8_wish a b c M) (fun r _ => r = -1) := by
  obtain ⟨h0, h1, h2, h3, h4, h5, h6, h7, h8, h9, h10, h11, h12, h13⟩ := c0_now h
  simp only [d_X8_wish, s_isRobot, s_has4, wq_bd, wq_some, wq_ite, sI, cI, Nat.mul_zero, Nat.zero_add, Nat.add_zero, h7, if_neg (no0 b)]
  first | done | simp | (split <;> simp)
theorem p1_unwish {M : Mem} (h : C0 M) (a : Int32) : wp (d_X8_unwish a M) (fun r _ => r = -1) := by
  obtain ⟨h0, h1, h2, h3, h4, h5, h6, h7, h8, h9, h10, h11, h12, h13⟩ := c0_now h
  simp only [d_X8_unwish, s_has7, wq_bd, wq_some, wq_ite, sI, cI, Nat.mul_zero, Nat.zero_add, Nat.add_zero, h9, if_neg (no0 a)]
  first | done | simp | (split <;> simp)
theorem p1_recipe {M : Mem} (h : C0 M) (a b : Int32) : wp (d_X8_recipe a b M) (fun r _ => r = -1) := by
  obtain ⟨h0, h1, h2, h3, h4, h5, h6, h7, h8, h9, h10, h11, h12, h13⟩ := c0_now h
  simp only [d_X8_recipe, s_has4, wq_bd, wq_some, wq_ite, sI, cI, Nat.mul_zero, Nat.zero_add, Nat.add_zero, h7, if_neg (no0 a)]
  first | done | simp | (split <;> simp)
theorem p1_booking {M : Mem} (h : C0 M) (a b : Int32) : wp (d_X8_booking a b M) (fun r _ => r = -1) := by
  obtain ⟨h0, h1, h2, h3, h4, h5, h6, h7, h8, h9, h10, h11, h12, h13⟩ := c0_now h
  simp only [d_X8_booking, s_has0, wq_bd, wq_some, wq_ite, sI, cI, Nat.mul_zero, Nat.zero_add, Nat.add_zero, h8, if_neg (no0 a)]
  first | done | simp | (split <;> simp)
theorem p1_wishTold {M : Mem} (h : C0 M) (a b : Int32) : wp (d_X8_wishTold a b M) (fun r _ => r = -1) := by
  obtain ⟨h0, h1, h2, h3, h4, h5, h6, h7, h8, h9, h10, h11, h12, h13⟩ := c0_now h
  simp only [d_X8_wishTold, s_has7, wq_bd, wq_some, wq_ite, sI, cI, Nat.mul_zero, Nat.zero_add, Nat.add_zero, h9, if_neg (no0 a)]
  first | done | simp | (split <;> simp)
theorem p1_why {M : Mem} (h : C0 M) (a b c d : Int32) : wp (d_X8_why a b c d M) (fun r _ => r = -1) := by
  obtain ⟨h0, h1, h2, h3, h4, h5, h6, h7, h8, h9, h10, h11, h12, h13⟩ := c0_now h
  simp only [d_X8_why, s_isRobot, s_has4, wq_bd, wq_some, wq_ite, sI, cI, Nat.mul_zero, Nat.zero_add, Nat.add_zero, h7, if_neg (no0 b)]
  first | done | simp | (split <;> simp)
theorem p1_earliest {M : Mem} (h : C0 M) (a b c : Int32) : wp (d_X8_earliest a b c M) (fun r _ => r = -1) := by
  obtain ⟨h0, h1, h2, h3, h4, h5, h6, h7, h8, h9, h10, h11, h12, h13⟩ := c0_now h
  simp only [d_X8_earliest, s_isRobot, s_has4, wq_bd, wq_some, wq_ite, sI, cI, Nat.mul_zero, Nat.zero_add, Nat.add_zero, h7, if_neg (no0 b)]
  first | done | simp | (split <;> simp)
theorem r0_now {M : Mem} (h : R0 M) : M 144 0 = 0 ∧ M 144 1 = 900 ∧ M 144 2 = 1500 ∧ M 144 3 = 20 ∧ M 144 4 = 0 ∧ M 144 5 = 0 ∧ M 144 6 = 0 ∧ M 143 2 = 0 ∧ M 143 4 = 0 ∧ M 143 11 = -1 ∧ M 143 13 = -1 ∧ M 143 14 = -1 ∧ M 143 18 = 0 := by
  refine ⟨?_, ?_, ?_, ?_, ?_, ?_, ?_, ?_, ?_, ?_, ?_, ?_, ?_⟩ <;> (rw [h _ (by decide)]; rfl)
theorem ck6 : ¬ ((6 : Int32) < 0 ∨ 366 ≤ (6 : Int32).toNatClampNeg) := by decide
theorem t6 : (6 : Int32).toNatClampNeg = 6 := by decide
theorem q1_book {M : Mem} (h : R0 M) (a b c : Int32) : wp (d_X9_book a b c M) (fun r _ => r = -1) := by
  obtain ⟨g0, g1, g2, g3, g4, g5, g6, g7, g8, g9, g10, g11, g12⟩ := r0_now h
  simp only [d_X9_book, d_X9_wrong, s_noRobot, s_noRecipe, wq_bd, wq_some, wq_ite, wq_chk, g4, if_neg (no1 b)]
  first | done | simp | (split <;> simp) | (simp [ck6])
theorem q1_cancel {M : Mem} (h : R0 M) (a : Int32) : wp (d_X9_cancel a M) (fun r _ => r = -1) := by
  obtain ⟨g0, g1, g2, g3, g4, g5, g6, g7, g8, g9, g10, g11, g12⟩ := r0_now h
  simp only [d_X9_cancel, s_noBooking, wq_bd, wq_some, wq_ite, wq_chk, g5, if_neg (no1 a)]
  first | done | simp | (split <;> simp) | (simp [ck6])
theorem q1_move {M : Mem} (h : R0 M) (a b : Int32) : wp (d_X9_move a b M) (fun r _ => r = -1) := by
  obtain ⟨g0, g1, g2, g3, g4, g5, g6, g7, g8, g9, g10, g11, g12⟩ := r0_now h
  simp only [d_X9_move, s_noBooking, wq_bd, wq_some, wq_ite, wq_chk, g5, if_neg (no1 a)]
  first | done | simp | (split <;> simp) | (simp [ck6])
theorem q1_wish {M : Mem} (h : R0 M) (a b c : Int32) : wp (d_X9_wish a b c M) (fun r _ => r = -1) := by
  obtain ⟨g0, g1, g2, g3, g4, g5, g6, g7, g8, g9, g10, g11, g12⟩ := r0_now h
  simp only [d_X9_wish, s_noRobot, s_noRecipe, wq_bd, wq_some, wq_ite, wq_chk, g4, if_neg (no1 b)]
  first | done | simp | (split <;> simp) | (simp [ck6])
theorem q1_unwish {M : Mem} (h : R0 M) (a : Int32) : wp (d_X9_unwish a M) (fun r _ => r = -1) := by
  obtain ⟨g0, g1, g2, g3, g4, g5, g6, g7, g8, g9, g10, g11, g12⟩ := r0_now h
  simp only [d_X9_unwish, s_in, wq_bd, wq_some, wq_ite, wq_chk, t6, g6, if_neg (no1 a)]
  first | done | simp | (split <;> simp) | (simp [ck6])
theorem q1_recipe {M : Mem} (h : R0 M) (a b : Int32) : wp (d_X9_recipe a b M) (fun r _ => r = -1) := by
  obtain ⟨g0, g1, g2, g3, g4, g5, g6, g7, g8, g9, g10, g11, g12⟩ := r0_now h
  simp only [d_X9_recipe, s_noRecipe, wq_bd, wq_some, wq_ite, wq_chk, g4, if_neg (no1 a)]
  first | done | simp | (split <;> simp) | (simp [ck6])
theorem q1_booking {M : Mem} (h : R0 M) (a b : Int32) : wp (d_X9_booking a b M) (fun r _ => r = -1) := by
  obtain ⟨g0, g1, g2, g3, g4, g5, g6, g7, g8, g9, g10, g11, g12⟩ := r0_now h
  simp only [d_X9_booking, s_noBooking, wq_bd, wq_some, wq_ite, wq_chk, g5, if_neg (no1 a)]
  first | done | simp | (split <;> simp) | (simp [ck6])
theorem q1_wishTold {M : Mem} (h : R0 M) (a b : Int32) : wp (d_X9_wishTold a b M) (fun r _ => r = -1) := by
  obtain ⟨g0, g1, g2, g3, g4, g5, g6, g7, g8, g9, g10, g11, g12⟩ := r0_now h
  simp only [d_X9_wishTold, s_in, wq_bd, wq_some, wq_ite, wq_chk, t6, g6, if_neg (no1 a)]
  first | done | simp | (split <;> simp) | (simp [ck6])
theorem q1_why {M : Mem} (h : R0 M) (a b c d : Int32) : wp (d_X9_why a b c d M) (fun r _ => r = -1) := by
  obtain ⟨g0, g1, g2, g3, g4, g5, g6, g7, g8, g9, g10, g11, g12⟩ := r0_now h
  simp only [d_X9_why, s_noRobot, s_noRecipe, wq_bd, wq_some, wq_ite, wq_chk, g4, if_neg (no1 b)]
  first | done | simp | (split <;> simp) | (simp [ck6])
theorem q1_earliest {M : Mem} (h : R0 M) (a b c : Int32) : wp (d_X9_earliest a b c M) (fun r _ => r = -1) := by
  obtain ⟨g0, g1, g2, g3, g4, g5, g6, g7, g8, g9, g10, g11, g12⟩ := r0_now h
  simp only [d_X9_earliest, s_noRobot, s_noRecipe, wq_bd, wq_some, wq_ite, wq_chk, g4, if_neg (no1 b)]
  first | done | simp | (split <;> simp) | (simp [ck6])
