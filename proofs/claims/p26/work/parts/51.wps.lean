theorem bd_some {r : Int32} {M : Mem} {k : Int32 → Mem → Ans} : bd (some (r, M)) k = k r M := rfl
theorem wq_some {r : Int32} {M : Mem} {Q : Int32 → Mem → Prop} : wp (some (r, M)) Q = Q r M := propext ⟨fun h => by obtain ⟨r', M', e, h⟩ := h; cases e; exact h, wp_some⟩
theorem wq_none {Q : Int32 → Mem → Prop} : wp none Q = False := propext ⟨fun h => (by obtain ⟨r', M', e, h⟩ := h; cases e), False.elim⟩
theorem wq_bd {o : Ans} {k : Int32 → Mem → Ans} {Q : Int32 → Mem → Prop} : wp (bd o k) Q = wp o (fun r M => wp (k r M) Q) := by
  refine propext ⟨fun h => ?_, wp_bd⟩
  obtain ⟨r', M', e, h⟩ := h
  cases o with
  | none => cases e
  | some q => exact ⟨q.1, q.2, rfl, r', M', e, h⟩
theorem wq_bnd {α : Type} {a : α} {k : α → Ans} {Q : Int32 → Mem → Prop} : wp (bnd a k) Q = wp (k a) Q := rfl
theorem wq_ite {c : Prop} [Decidable c] {a b : Ans} {Q : Int32 → Mem → Prop} : wp (if c then a else b) Q = if c then wp a Q else wp b Q := by
  by_cases h : c
  · rw [if_pos h, if_pos h]
  · rw [if_neg h, if_neg h]
theorem wq_chk {i : Int32} {n : Nat} {o : Ans} {Q : Int32 → Mem → Prop} : wp (chk i n o) Q = (¬ (i < 0 ∨ n ≤ i.toNatClampNeg) ∧ wp o Q) := by
  unfold chk
  rw [wq_ite, wq_none]
  by_cases h : i < 0 ∨ n ≤ i.toNatClampNeg
  · rw [if_pos h]
    exact propext ⟨False.elim, fun x => x.1 h⟩
  · rw [if_neg h]
    exact propext ⟨fun x => ⟨h, x⟩, fun x => x.2⟩
theorem wq_nar {ty : FieldType} {v : Int32} {o : Ans} {Q : Int32 → Mem → Prop} : wp (nar ty v o) Q = (narrow ty (.int v) = .int v ∧ wp o Q) := by
  unfold nar
  rw [wq_ite, wq_none]
  by_cases h : narrow ty (.int v) = .int v
  · rw [if_pos h]
    exact propext ⟨fun x => ⟨h, x⟩, fun x => x.2⟩
  · rw [if_neg h]
    exact propext ⟨False.elim, fun x => h x.1⟩
theorem wq_stk {v : Int32} {k : Nat → Ans} {Q : Int32 → Mem → Prop} : wp (stk v k) Q = (v.toNatClampNeg < 7 ∧ wp (k v.toNatClampNeg) Q) := by
  unfold stk
  rw [wq_ite, wq_none]
  by_cases h : v.toNatClampNeg < 7
  · rw [if_pos h]
    exact propext ⟨fun x => ⟨h, x⟩, fun x => x.2⟩
  · rw [if_neg h]
    exact propext ⟨False.elim, fun x => h x.1⟩
theorem mup_a (M : Mem) (i j : Nat) (v : Int32) (a b : Nat) : mup M i j v a b = if a = i then (if b = j then v else M i b) else M a b := by
  unfold mup mset upd
  split <;> rfl
theorem mset_a (M : Mem) (i : Nat) (f : Nat → Int32) (a b : Nat) : mset M i f a b = if a = i then f b else M a b := by
  unfold mset
  split <;> rfl
/-- the class is as it was made -/
def C0 (M : Mem) : Prop := ∀ i, i < 143 → M i = M0 i
def R0 (M : Mem) : Prop := ∀ i, 143 ≤ i → M i = M0 i
theorem c0_now {M : Mem} (h : C0 M) : M 0 0 = 0 ∧ M 0 1 = 900 ∧ M 0 2 = 1500 ∧ M 0 3 = 20 ∧ M 0 4 = 0 ∧ M 0 5 = 0 ∧ M 0 6 = 0 ∧ M 1 0 = 0 ∧ M 6 0 = 0 ∧ M 12 0 = 0 ∧ M 134 1 = 0 ∧ M 136 1 = 0 ∧ M 141 3 = 0 ∧ M 135 0 = 3 := by
  refine ⟨?_, ?_, ?_, ?_, ?_, ?_, ?_, ?_, ?_, ?_, ?_, ?_, ?_, ?_⟩ <;> (rw [h _ (by decide)]; rfl)
theorem fuel_s : fuelN = 3999 + 1 := rfl
theorem nb0 : narrow .boolean (.int 0) = .int 0 := rfl
theorem nb1 : narrow .boolean (.int 1) = .int 1 := rfl
theorem s_within (v a b : Int32) (M : Mem) : d_X8_within v a b M = some ((if a ≤ v ∧ v ≤ b then 1 else 0), M) := by
  unfold d_X8_within
  by_cases h1 : v < a
  · rw [if_pos h1, if_neg (fun h => Int32.not_lt.mpr h.1 h1)]
  · by_cases h2 : b < v
    · rw [if_neg h1, if_pos h2, if_neg (fun h => Int32.not_lt.mpr h.2 h2)]
    · rw [if_neg h1, if_neg h2, if_pos ⟨Int32.not_lt.mp h1, Int32.not_lt.mp h2⟩]
theorem s_in (v a b : Int32) (M : Mem) : d_X9_in v a b M = some ((if a ≤ v ∧ v ≤ b then 1 else 0), M) := s_within v a b M
theorem s_isRobot (v : Int32) (M : Mem) : d_X8_isRobot v M = some ((if 0 ≤ v ∧ v ≤ 5 then 1 else 0), M) := by
  unfold d_X8_isRobot
  rw [s_within]
  by_cases h : 0 ≤ v ∧ v ≤ 5
  · rw [if_pos h, bd_some]; unfold nar; rw [if_pos nb1]
  · rw [if_neg h, bd_some]; unfold nar; rw [if_pos nb0]
theorem s_noRobot (v : Int32) (M : Mem) : d_X9_noRobot v M = some ((if 0 ≤ v ∧ v ≤ 5 then 0 else 1), M) := by
  unfold d_X9_noRobot
  rw [s_in]
  by_cases h : 0 ≤ v ∧ v ≤ 5
  · rw [if_pos h, if_pos h]; rfl
  · rw [if_neg h, if_neg h]; rfl
theorem s_has4 (k : Nat) (v : Int32) (M : Mem) : d_X4_has k v M = some ((if 0 ≤ v ∧ v < M (sI k 1) 0 then 1 else 0), M) := by
  unfold d_X4_has
  by_cases h1 : v < 0
  · rw [if_pos h1, if_neg (fun h => Int32.not_lt.mpr h.1 h1)]
  · by_cases h2 : M (sI k 1) 0 ≤ v
    · rw [if_neg h1, if_pos h2, if_neg (fun h => Int32.not_le.mpr h.2 h2)]
    · rw [if_neg h1, if_neg h2, if_pos ⟨Int32.not_lt.mp h1, Int32.not_le.mp h2⟩]
theorem s_has0 (k : Nat) (v : Int32) (M : Mem) : d_X0_has k v M = some ((if 0 ≤ v ∧ v < M (sI k 6) 0 then 1 else 0), M) := by
  unfold d_X0_has
  by_cases h1 : v < 0
  · rw [if_pos h1, if_neg (fun h => Int32.not_lt.mpr h.1 h1)]
  · by_cases h2 : M (sI k 6) 0 ≤ v
    · rw [if_neg h1, if_pos h2, if_neg (fun h => Int32.not_le.mpr h.2 h2)]
    · rw [if_neg h1, if_neg h2, if_pos ⟨Int32.not_lt.mp h1, Int32.not_le.mp h2⟩]
theorem s_has7 (k : Nat) (v : Int32) (M : Mem) : d_X7_has k v M = some ((if 0 ≤ v ∧ v < M (sI k 12) 0 then 1 else 0), M) := by
  unfold d_X7_has
  by_cases h1 : v < 0
  · rw [if_pos h1, if_neg (fun h => Int32.not_lt.mpr h.1 h1)]
  · by_cases h2 : M (sI k 12) 0 ≤ v
    · rw [if_neg h1, if_pos h2, if_neg (fun h => Int32.not_le.mpr h.2 h2)]
    · rw [if_neg h1, if_neg h2, if_pos ⟨Int32.not_lt.mp h1, Int32.not_le.mp h2⟩]
theorem s_noRecipe (v : Int32) (M : Mem) : d_X9_noRecipe v M = some ((if 0 ≤ v ∧ v ≤ M 144 4 - 1 then 0 else 1), M) := by
  unfold d_X9_noRecipe
  rw [s_in]
  by_cases h : 0 ≤ v ∧ v ≤ M 144 4 - 1
  · rw [if_pos h]; show (if _ then _ else _) = _; rw [if_neg (by decide)]; show bd (some ((if 0 ≤ v ∧ v ≤ M 144 4 - 1 then (1 : Int32) else 0), M)) _ = _; rw [if_pos h]; rfl
  · rw [if_neg h]; show (if _ then _ else _) = _; rw [if_neg (by decide)]; show bd (some ((if 0 ≤ v ∧ v ≤ M 144 4 - 1 then (1 : Int32) else 0), M)) _ = _; rw [if_neg h]; rfl
theorem s_noBooking (v : Int32) (M : Mem) : d_X9_noBooking v M = some ((if 0 ≤ v ∧ v ≤ M 144 5 - 1 then 0 else 1), M) := by
  unfold d_X9_noBooking
  rw [s_in]
  by_cases h : 0 ≤ v ∧ v ≤ M 144 5 - 1
  · rw [if_pos h]; show (if _ then _ else _) = _; rw [if_neg (by decide)]; show bd (some ((if 0 ≤ v ∧ v ≤ M 144 5 - 1 then (1 : Int32) else 0), M)) _ = _; rw [if_pos h]; rfl
  · rw [if_neg h]; show (if _ then _ else _) = _; rw [if_neg (by decide)]; show bd (some ((if 0 ≤ v ∧ v ≤ M 144 5 - 1 then (1 : Int32) else 0), M)) _ = _; rw [if_neg h]; rfl
