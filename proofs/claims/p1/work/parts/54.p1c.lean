def pN : Nat → Int32
  | 0 => 900
  | n + 1 => imin 1500 (pN n + 20)
def lC : Nat → Int32
  | 0 => 1000000
  | n + 1 => imin (lC n) (pN (n + 1))
def lR : Nat → Int32
  | 0 => 99999
  | n + 1 => if lR n ≤ pN (n + 1) then lR n else pN (n + 1)
theorem lC_lR : ∀ n, n < 201 → 0 < n → lC n = lR n := by decide +kernel
theorem I_nat (n : Nat) : I ((n : Int) + 1) = I n + 1 := by rw [← I_add]; rfl
theorem tick_0 {M : Mem} (h : M 112 6 = 0) : d_X1_passTick 0 M = some (0, mup (mup (mup M 112 0 (M 112 0 + 1)) 112 1 (imin (M 112 2) (M 112 1 + M 112 3))) 112 4 (imin (M 112 4) (imin (M 112 2) (M 112 1 + M 112 3)))) := by
  simp only [d_X1_passTick, ud_X1_passTick_L32, d_X1_passTick_L32_body, bnd, cI, Nat.mul_zero, Nat.add_zero, mup_a]
  simp [h]
theorem ticks_0 {T : Nat} (hT : T ≤ 200) {kx : Mem → Ans} {Q : Int32 → Mem → Prop} : ∀ (d n x : Nat) (M : Mem), x + d = T → d < n → M 112 6 = 0 → M 112 2 = 1500 → M 112 3 = 20 → M 112 1 = pN x → M 112 4 = lC x → (∀ M1 : Mem, M1 112 1 = pN T → M1 112 4 = lC T → M1 112 6 = 0 → (∀ i, i ≠ 112 → M1 i = M i) → wp (kx M1) Q) → wp (d_X1_passTicks_L2 0 (I T) kx n (I x) M) Q
  | 0, n + 1, x, M, hx, hn, h6, h2, h3, h1, h4, hk => by
    rw [sd_X1_passTicks_L2]
    unfold d_X1_passTicks_L2_body
    rw [if_pos (by rw [I_le (by unfold sm; omega) (by unfold sm; omega)]; omega)]
    rw [show x = T by omega] at h1 h4
    exact hk M h1 h4 h6 (fun _ _ => rfl)
  | d + 1, n + 1, x, M, hx, hn, h6, h2, h3, h1, h4, hk => by
    rw [sd_X1_passTicks_L2]
    unfold d_X1_passTicks_L2_body
    rw [if_neg (by rw [I_le (by unfold sm; omega) (by unfold sm; omega)]; omega), tick_0 h6, bd_some, wq_bnd]
    rw [show (I x + 1 : Int32) = I ((x + 1 : Nat) : Int) from (I_nat x).symm]
    refine ticks_0 hT d n (x + 1) _ (by omega) (by omega) ?_ ?_ ?_ ?_ ?_ ?_
    · simp only [mup_a]; simp [h6]
    · simp only [mup_a]; simp [h2]
    · simp only [mup_a]; simp [h3]
    · simp only [mup_a]; simp [h1, h2, h3, pN]
    · simp only [mup_a]; simp [h1, h2, h3, h4, pN, lC]
    · intro M1 e1 e4 e6 ef
      refine hk M1 e1 e4 e6 (fun i hi => ?_)
      rw [ef i hi, mup_n hi, mup_n hi, mup_n hi]
  | _, 0, _, _, _, hn, _, _, _, _, _, _ => absurd hn (by omega)
theorem small_nat {a lo hi : Int32} (h : lo ≤ a ∧ a ≤ hi) (hlo : 0 ≤ lo.toInt) : a = I (a.toInt.toNat : Nat) ∧ (lo.toInt.toNat ≤ a.toInt.toNat) ∧ a.toInt.toNat ≤ hi.toInt.toNat := by
  have e1 := le_toInt.mp h.1
  have e2 := le_toInt.mp h.2
  refine ⟨?_, by omega, by omega⟩
  rw [Int.toNat_of_nonneg (by omega)]
  exact (I_toInt a).symm
theorem p1_pressureIn {M : Mem} (h : C0 M) (a : Int32) : wp (d_X8_pressureIn a M) (fun r _ => r = if 0 ≤ a ∧ a ≤ 200 then pN a.toInt.toNat else -2) := by
  obtain ⟨h0, h1, h2, h3, h4, h5, h6, h7, h8, h9, h10, h11, h12, h13⟩ := c0_now h
  simp only [d_X8_pressureIn, s_within, wq_bd, wq_some, wq_ite, wq_bnd, sI, cI, Nat.mul_zero, Nat.zero_add, Nat.add_zero]
  by_cases c1 : 0 ≤ a ∧ a ≤ 200
  · simp only [if_pos c1]
    rw [if_neg (by decide)]
    obtain ⟨e, -, e2⟩ := small_nat c1 (by decide)
    have e3 : a.toInt.toNat ≤ 200 := e2
    refine wp_mono (begin_0 h8) (fun r M1 hM => ?_)
    obtain ⟨b0, b1, b2, b3, b4, b5, b6, b7, b8⟩ := hM
    unfold d_X1_passTicks
    generalize a.toInt.toNat = T at e e3
    subst e
    refine ticks_0 e3 T fuelN 0 M1 (by omega) (by unfold fuelN; omega) b6 (b2.trans h2) (b3.trans h3) (b1.trans h1) b4 (fun M2 f1 f4 f6 ff => ?_)
    simp only [wq_some]
    exact f1
  · simp only [if_neg c1]
    simp
theorem p1_lowestIn {M : Mem} (h : C0 M) (a : Int32) : wp (d_X8_lowestIn a M) (fun r _ => r = if 1 ≤ a ∧ a ≤ 200 then lC a.toInt.toNat else -2) := by
  obtain ⟨h0, h1, h2, h3, h4, h5, h6, h7, h8, h9, h10, h11, h12, h13⟩ := c0_now h
  simp only [d_X8_lowestIn, s_within, wq_bd, wq_some, wq_ite, wq_bnd, sI, cI, Nat.mul_zero, Nat.zero_add, Nat.add_zero]
  by_cases c1 : 1 ≤ a ∧ a ≤ 200
  · simp only [if_pos c1]
    rw [if_neg (by decide)]
    obtain ⟨e, -, e2⟩ := small_nat c1 (by decide)
    have e3 : a.toInt.toNat ≤ 200 := e2
    refine wp_mono (begin_0 h8) (fun r M1 hM => ?_)
    obtain ⟨b0, b1, b2, b3, b4, b5, b6, b7, b8⟩ := hM
    unfold d_X1_passTicks
    generalize a.toInt.toNat = T at e e3
    subst e
    refine ticks_0 e3 T fuelN 0 M1 (by omega) (by unfold fuelN; omega) b6 (b2.trans h2) (b3.trans h3) (b1.trans h1) b4 (fun M2 f1 f4 f6 ff => ?_)
    simp only [wq_some]
    exact f4
  · simp only [if_neg c1]
    simp
theorem drop_0 {M : Mem} (h : M 12 0 = 0) (t : Int32) : d_X7_dropUntil 0 t M = some (0, M) := by
  simp only [d_X7_dropUntil, ud_X7_dropUntil_L9, d_X7_dropUntil_L9_body, bnd, sI, Nat.mul_zero, Nat.zero_add, h]
  rw [if_pos (by decide)]
theorem p1_pass {M : Mem} (h : C0 M) (a : Int32) : wp (d_X8_pass a M) (fun r _ => r = if 1 ≤ a ∧ a ≤ 200 then 0 else -2) := by
  obtain ⟨h0, h1, h2, h3, h4, h5, h6, h7, h8, h9, h10, h11, h12, h13⟩ := c0_now h
  simp only [d_X8_pass, s_within, wq_bd, wq_some, wq_ite, wq_bnd, sI, cI, Nat.mul_zero, Nat.zero_add, Nat.add_zero, h0]
  by_cases c1 : 1 ≤ a ∧ a ≤ 200
  · simp only [if_pos c1]
    rw [if_neg (by decide), if_pos (by rw [Int32.zero_add]; exact Int32.le_trans c1.2 (by decide))]
    obtain ⟨e, -, e2⟩ := small_nat c1 (by decide)
    have e3 : a.toInt.toNat ≤ 200 := e2
    refine wp_mono (push_fr h10 h13) (fun r M0' hM0 => ?_)
    refine wp_mono (begin_0 (by rw [hM0 6 (by decide)]; exact h8)) (fun r M1 hM => ?_)
    obtain ⟨b0, b1, b2, b3, b4, b5, b6, b7, b8⟩ := hM
    rw [hM0 0 (by decide)] at b0 b1 b2 b3
    unfold d_X1_passTicks
    clear c1
    generalize a.toInt.toNat = T at e e3
    subst e
    refine ticks_0 e3 T fuelN 0 M1 (by omega) (by unfold fuelN; omega) b6 (b2.trans h2) (b3.trans h3) (b1.trans h1) b4 (fun M2 f1 f4 f6 ff => ?_)
    simp only [wq_some]
    simp only [d_X8_takeOver, ud_X8_takeOver_L4, d_X8_takeOver_L4_body, wq_bd, wq_some, wq_ite, wq_bnd, sI, cI, Nat.mul_zero, Nat.zero_add, Nat.add_zero, f6]
    rw [if_pos (by decide)]
    rw [drop_0]
    · simp only [wq_some]
    · simp only [mup_a]
      simp [ff 12 (by decide), b8 12 (by decide), hM0 12 (by decide), h9]
  · simp only [if_neg c1]
    simp
theorem p1_type {M : Mem} (h : C0 M) (a : Int32) : wp (d_X8_type a M) (fun r _ => r = 1) := by
  obtain ⟨h0, h1, h2, h3, h4, h5, h6, h7, h8, h9, h10, h11, h12, h13⟩ := c0_now h
  simp only [d_X8_type, d_X6_append, wq_bd, wq_some, wq_ite, wq_bnd, sI, cI, Nat.mul_zero, Nat.zero_add, Nat.add_zero, wq_chk, h11, mup_a]
  simp [h11]
theorem p1_clearText {M : Mem} (h : C0 M) : wp (d_X8_clearText M) (fun r _ => r = 0) := by
  obtain ⟨h0, h1, h2, h3, h4, h5, h6, h7, h8, h9, h10, h11, h12, h13⟩ := c0_now h
  simp only [d_X8_clearText, wq_bd, wq_some, wq_ite, wq_bnd, sI, cI, Nat.mul_zero, Nat.zero_add, Nat.add_zero, h11]
theorem p1_undo {M : Mem} (h : C0 M) : wp (d_X8_undo M) (fun r _ => r = -5) := by
  obtain ⟨h0, h1, h2, h3, h4, h5, h6, h7, h8, h9, h10, h11, h12, h13⟩ := c0_now h
  simp only [d_X8_undo, wq_bd, wq_some, wq_ite, wq_bnd, sI, cI, Nat.mul_zero, Nat.zero_add, Nat.add_zero, h10]
  simp
theorem p1_restore {M : Mem} (h : C0 M) : wp (d_X8_restore M) (fun r _ => r = -5) := by
  obtain ⟨h0, h1, h2, h3, h4, h5, h6, h7, h8, h9, h10, h11, h12, h13⟩ := c0_now h
  simp only [d_X8_restore, wq_bd, wq_some, wq_ite, wq_bnd, sI, cI, Nat.mul_zero, Nat.zero_add, Nat.add_zero, h12]
  simp
theorem p1_keep {M : Mem} (h : C0 M) : wp (d_X8_keep M) (fun r _ => r = 0) := by
  obtain ⟨h0, h1, h2, h3, h4, h5, h6, h7, h8, h9, h10, h11, h12, h13⟩ := c0_now h
  simp only [d_X8_keep, wq_bd, wq_some, wq_ite, wq_bnd, sI, cI, Nat.mul_zero, Nat.zero_add, Nat.add_zero]
  refine wp_mono (copy_fr 2 0 M) (fun r M1 hM => ?_)
  rw [mup_n (by decide), hM.2 0 (by decide)]
  exact h0
theorem p1_bookAll {M : Mem} (h : C0 M) : wp (d_X8_bookAll M) (fun r _ => r = -100) := by
  obtain ⟨h0, h1, h2, h3, h4, h5, h6, h7, h8, h9, h10, h11, h12, h13⟩ := c0_now h
  simp only [d_X8_bookAll, d_X6_read, ud_X6_read_L12, d_X6_read_L12_body, d_X6_readEntry, d_X6_isDigit, d_X6_current, wq_bd, wq_some, wq_ite, wq_bnd, sI, cI, Nat.mul_zero, Nat.zero_add, Nat.add_zero, mup_a]
  simp [h11]
theorem meet_0 {M : Mem} (h : M 6 0 = 0) (a b c d : Int32) : d_X5_firstMeeting 0 a b c d M = some (-1, M) := by
  simp only [d_X5_firstMeeting, ud_X5_firstMeeting_L3, d_X5_firstMeeting_L3_body, sI, Nat.mul_zero, Nat.zero_add, h]
  rw [if_pos (by decide)]
theorem ofR_0 {M : Mem} (h : M 6 0 = 0) (a b : Int32) : d_X0_ofRobot 0 a b M = some (0, M) := by
  simp only [d_X0_ofRobot, ud_X0_ofRobot_L5, d_X0_ofRobot_L5_body, sI, Nat.mul_zero, Nat.zero_add, h]
  rw [if_pos (by decide)]
theorem inS_0 {M : Mem} (h : M 6 0 = 0) (a : Int32) : d_X0_inState 0 a M = some (0, M) := by
  simp only [d_X0_inState, ud_X0_inState_L4, d_X0_inState_L4_body, sI, Nat.mul_zero, Nat.zero_add, h]
  rw [if_pos (by decide)]
theorem p1_robot {M : Mem} (h : C0 M) (a b : Int32) : wp (d_X8_robot a b M) (fun r _ => r = if 0 ≤ a ∧ a ≤ 5 then (if b = 0 then 0 else if b = 1 then 0 else if b = 2 then 0 else if b = 3 then 0 else -2) else -1) := by
  obtain ⟨h0, h1, h2, h3, h4, h5, h6, h7, h8, h9, h10, h11, h12, h13⟩ := c0_now h
  simp only [d_X8_robot, s_isRobot, d_X5_isBusyIn, d_X5_firstFreeTick, ud_X5_firstFreeTick_L2, d_X5_firstFreeTick_L2_body, meet_0 h8, ofR_0 h8, wq_bd, wq_some, wq_ite, wq_bnd, sI, cI, Nat.mul_zero, Nat.zero_add, Nat.add_zero, h0]
  by_cases c1 : 0 ≤ a ∧ a ≤ 5
  · by_cases d0 : b = 0 <;> by_cases d1 : b = 1 <;> by_cases d2 : b = 2 <;> by_cases d3 : b = 3 <;> simp [c1, d0, d1, d2, d3]
  · simp [c1]
def spCount (a : Int32) : Int32 := if a = 1 then 900 else if a = 2 then 1500 else if a = 3 then 20 else if a = 0 ∨ a = 4 ∨ a = 5 ∨ a = 6 ∨ a = 7 ∨ a = 8 ∨ a = 9 ∨ a = 10 ∨ a = 11 ∨ a = 12 ∨ a = 13 ∨ a = 14 ∨ a = 15 ∨ a = 16 ∨ a = 17 then 0 else -2
theorem p1_count {M : Mem} (h : C0 M) (a : Int32) : wp (d_X8_count a M) (fun r _ => r = spCount a) := by
  obtain ⟨h0, h1, h2, h3, h4, h5, h6, h7, h8, h9, h10, h11, h12, h13⟩ := c0_now h
  have hrow : M 136 1 = 0 := h11
  unfold spCount
  simp only [d_X8_count, s_within, inS_0 h8, wq_bd, wq_some, wq_ite, wq_bnd, sI, cI, Nat.mul_zero, Nat.zero_add, Nat.add_zero, h0, h1, h2, h3, h4, h5, h6, h7, h8, h9, h10, h11]
  by_cases c1 : 6 ≤ a ∧ a ≤ 10
  · rw [if_pos c1, if_neg (by decide)]
    obtain ⟨e, e1, e2⟩ := small_nat c1 (by decide)
    have e3 : 6 ≤ a.toInt.toNat := e1
    have e4 : a.toInt.toNat ≤ 10 := e2
    generalize a.toInt.toNat = n at e e3 e4
    subst e
    rcases (show n = 6 ∨ n = 7 ∨ n = 8 ∨ n = 9 ∨ n = 10 by omega) with rfl | rfl | rfl | rfl | rfl <;> decide
  · rw [if_neg c1]
    simp only [if_true]
    by_cases d0 : a = 0
    · subst d0; simp
    by_cases d1 : a = 1
    · subst d1; simp
    by_cases d2 : a = 2
    · subst d2; simp
    by_cases d3 : a = 3
    · subst d3; simp
    by_cases d4 : a = 4
    · subst d4; simp
    by_cases d5 : a = 5
    · subst d5; simp
    by_cases d11 : a = 11
    · subst d11; refine wp_mono (doomed_0 h8) (fun r M1 hr => ?_); simp [hr]
    by_cases d12 : a = 12
    · subst d12; simp
    by_cases d13 : a = 13
    · subst d13; simp
    by_cases d14 : a = 14
    · subst d14; simp
    by_cases d15 : a = 15
    · subst d15; simp
    by_cases d16 : a = 16
    · subst d16; simp
    by_cases d17 : a = 17
    · subst d17; simp
    have d6 : ¬ a = 6 := fun e => c1 (by rw [e]; decide)
    have d7 : ¬ a = 7 := fun e => c1 (by rw [e]; decide)
    have d8 : ¬ a = 8 := fun e => c1 (by rw [e]; decide)
    have d9 : ¬ a = 9 := fun e => c1 (by rw [e]; decide)
    have d10 : ¬ a = 10 := fun e => c1 (by rw [e]; decide)
    simp [d0, d1, d2, d3, d4, d5, d11, d12, d13, d14, d15, d16, d17, d6, d7, d8, d9, d10]
theorem rep_0 {kx : Mem → Ans} {Q : Int32 → Mem → Prop} : ∀ (d n x : Nat) (M : Mem), x + d = 60 → d < n → (∀ M1 : Mem, (∀ i, i ≠ 142 → M1 i = M i) → wp (kx M1) Q) → wp (d_X8_repair_L2 kx n (I x) M) Q
  | 0, n + 1, x, M, hx, hn, hk => by
    rw [sd_X8_repair_L2]
    unfold d_X8_repair_L2_body
    rw [if_pos (by rw [show (60 : Int32) = I 60 from rfl, I_le (by unfold sm; omega) (by unfold sm; omega)]; omega)]
    exact hk M (fun _ _ => rfl)
  | d + 1, n + 1, x, M, hx, hn, hk => by
    rw [sd_X8_repair_L2]
    unfold d_X8_repair_L2_body
    rw [if_neg (by rw [show (60 : Int32) = I 60 from rfl, I_le (by unfold sm; omega) (by unfold sm; omega)]; omega), wq_chk]
    refine ⟨?_, ?_⟩
    · rw [show (0 : Int32) = I 0 from rfl, I_lt (by unfold sm; omega) (by unfold sm; omega), I_clamp (by unfold sm; omega)]
      omega
    · rw [wq_bnd, wq_bnd, show (I x + 1 : Int32) = I ((x + 1 : Nat) : Int) from (I_nat x).symm]
      refine rep_0 d n (x + 1) _ (by omega) (by omega) (fun M1 hM => hk M1 (fun i hi => ?_))
      rw [hM i hi, mup_n hi]
  | _, 0, _, _, _, hn, _ => absurd hn (by omega)
theorem p1_repair {M : Mem} (h : C0 M) : wp (d_X8_repair M) (fun r _ => r = -5) := by
  obtain ⟨h0, h1, h2, h3, h4, h5, h6, h7, h8, h9, h10, h11, h12, h13⟩ := c0_now h
  unfold d_X8_repair
  refine rep_0 60 fuelN 0 M (by omega) (by unfold fuelN; omega) (fun M1 hM => ?_)
  simp only [d_X8_firstToRepair, wq_bd, wq_some, wq_ite, wq_bnd, sI, cI, Nat.mul_zero, Nat.zero_add, Nat.add_zero]
  refine wp_mono (toEnd_wp (by rw [hM 6 (by decide)]; exact h8)) (fun r M2 hM2 => ?_)
  simp only [ud_X8_firstToRepair_L6, d_X8_firstToRepair_L6_body, wq_bd, wq_some, wq_ite, wq_bnd, sI, cI, Nat.mul_zero, Nat.zero_add, Nat.add_zero, hM2.1]
  simp
