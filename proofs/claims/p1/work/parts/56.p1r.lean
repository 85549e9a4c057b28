theorem q1_addRecipe {M : Mem} (h : R0 M) (a b c d : Int32) : wp (d_X9_addRecipe a b c d M) (fun r _ => r = if (0 ≤ a ∧ a ≤ 3000) ∧ (1 ≤ b ∧ b ≤ 500) ∧ (1 ≤ c ∧ c ≤ 20) ∧ (0 ≤ d ∧ d ≤ 9) then 0 else -2) := by
  obtain ⟨g0, g1, g2, g3, g4, g5, g6, g7, g8, g9, g10, g11, g12⟩ := r0_now h
  simp only [d_X9_addRecipe, s_in, wq_bd, wq_some, wq_ite, wq_bnd, t_0, cl_0, t_1, cl_1, t_2, cl_2, t_3, cl_3, t_4, cl_4, t_5, cl_5, t_6, cl_6, t_7, cl_7, t_8, cl_8, g4]
  by_cases c1 : 0 ≤ a ∧ a ≤ 3000
  · rw [if_pos c1, if_neg (by decide)]
    by_cases c2 : 1 ≤ b ∧ b ≤ 500
    · rw [if_pos c2, if_neg (by decide)]
      by_cases c3 : 1 ≤ c ∧ c ≤ 20
      · rw [if_pos c3, if_neg (by decide)]
        by_cases c4 : 0 ≤ d ∧ d ≤ 9
        · have hp : (0 ≤ a ∧ a ≤ 3000) ∧ (1 ≤ b ∧ b ≤ 500) ∧ (1 ≤ c ∧ c ≤ 20) ∧ (0 ≤ d ∧ d ≤ 9) := ⟨c1, c2, c3, c4⟩
          simp only [if_pos hp]
          rw [if_pos c4, if_neg (by decide), if_neg (by decide)]
          refine wp_mono (record_0 g7) (fun r M1 hM => ?_)
          simp only [wq_chk, wq_bnd, wq_some]
          decide
        · rw [if_neg c4, if_pos rfl, if_neg (fun z => c4 z.2.2.2)]
      · rw [if_neg c3, if_pos rfl, if_neg (fun z => c3 z.2.2.1)]
    · rw [if_neg c2, if_pos rfl, if_neg (fun z => c2 z.2.1)]
  · rw [if_neg c1, if_pos rfl, if_neg (fun z => c1 z.1)]
theorem begR {M : Mem} (h : R0 M) : wp (d_X9_begins M) (fun _ M1 => M1 143 10 = 900 ∧ M1 144 5 = 0 ∧ M1 143 11 = -1 ∧ M1 144 2 = 1500 ∧ M1 144 3 = 20) := by
  obtain ⟨g0, g1, g2, g3, g4, g5, g6, g7, g8, g9, g10, g11, g12⟩ := r0_now h
  refine wp_mono (begins_0 g5) (fun r M1 q => ?_)
  have e : M1 144 = M 144 := q.2.1 144 (by decide) (by decide) (by decide) (by decide)
  refine ⟨q.1.trans g1, by rw [e]; exact g5, by rw [q.2.2 11 (by decide)]; exact g9, by rw [e]; exact g2, by rw [e]; exact g3⟩
theorem pin_0 {T : Nat} (hT : T ≤ 200) {kx : Mem → Ans} {Q : Int32 → Mem → Prop} : ∀ (d n x : Nat) (M : Mem), x + d = T + 1 → 0 < x → d < n → M 144 5 = 0 → M 143 11 = -1 → M 144 2 = 1500 → M 144 3 = 20 → M 143 10 = pN (x - 1) → (∀ M1 : Mem, M1 143 10 = pN T → wp (kx M1) Q) → wp (d_X9_pressureIn_L20 (I T) kx n (I x) M) Q
  | 0, n + 1, x, M, hx, h0, hn, h5, h11, h2, h3, h1, hk => by
    rw [sd_X9_pressureIn_L20]
    unfold d_X9_pressureIn_L20_body
    rw [if_pos (by rw [I_lt (by unfold sm; omega) (by unfold sm; omega)]; omega)]
    rw [show x - 1 = T by omega] at h1
    exact hk M h1
  | d + 1, n + 1, x, M, hx, h0, hn, h5, h11, h2, h3, h1, hk => by
    rw [sd_X9_pressureIn_L20]
    unfold d_X9_pressureIn_L20_body
    rw [if_neg (by rw [I_lt (by unfold sm; omega) (by unfold sm; omega)]; omega), cl_0, wq_bd]
    refine wp_mono (fore_0 h5 h11 _) (fun r M1 q => ?_)
    have e : M1 144 = M 144 := q.2.1 144 (by decide)
    rw [wq_bnd, show (I x + 1 : Int32) = I ((x + 1 : Nat) : Int) from (I_nat x).symm]
    refine pin_0 hT d n (x + 1) _ (by omega) (by omega) (by omega) (by rw [e]; exact h5) (by rw [q.2.2 11 (by decide)]; exact h11) (by rw [e]; exact h2) (by rw [e]; exact h3) ?_ hk
    rw [q.1, h1, h2, h3]
    rw [show x + 1 - 1 = (x - 1) + 1 by omega]
    rfl
  | _, 0, _, _, _, _, hn, _, _, _, _, _, _ => absurd hn (by omega)
theorem q1_pressureIn {M : Mem} (h : R0 M) (a : Int32) : wp (d_X9_pressureIn a M) (fun r _ => r = if 0 ≤ a ∧ a ≤ 200 then pN a.toInt.toNat else -2) := by
  obtain ⟨g0, g1, g2, g3, g4, g5, g6, g7, g8, g9, g10, g11, g12⟩ := r0_now h
  simp only [d_X9_pressureIn, s_in, wq_bd, wq_some, wq_ite, wq_bnd]
  by_cases c1 : 0 ≤ a ∧ a ≤ 200
  · simp only [if_pos c1]
    rw [if_neg (by decide)]
    obtain ⟨e, -, e2⟩ := small_nat c1 (by decide)
    have e3 : a.toInt.toNat ≤ 200 := e2
    refine wp_mono (begR h) (fun r M1 q => ?_)
    obtain ⟨q1, q2, q3, q4, q5⟩ := q
    clear c1
    generalize a.toInt.toNat = T at e e3
    subst e
    refine pin_0 e3 T fuelN 1 M1 (by omega) (by omega) (by unfold fuelN; omega) q2 q3 q4 q5 q1 (fun M2 f => ?_)
    rw [wq_some]
    exact f
  · simp only [if_neg c1]
    simp
theorem lin_0 {T : Nat} (hT : T ≤ 200) {kx : Int32 → Mem → Ans} {Q : Int32 → Mem → Prop} : ∀ (d n x : Nat) (M : Mem), x + d = T + 1 → 0 < x → d < n → M 144 5 = 0 → M 143 11 = -1 → M 144 2 = 1500 → M 144 3 = 20 → M 143 10 = pN (x - 1) → (∀ M1 : Mem, wp (kx (lR T) M1) Q) → wp (d_X9_lowestIn_L23 (I T) kx n (lR (x - 1)) (I x) M) Q
  | 0, n + 1, x, M, hx, h0, hn, h5, h11, h2, h3, h1, hk => by
    rw [sd_X9_lowestIn_L23]
    unfold d_X9_lowestIn_L23_body
    rw [if_pos (by rw [I_lt (by unfold sm; omega) (by unfold sm; omega)]; omega)]
    rw [show x - 1 = T by omega]
    exact hk M
  | d + 1, n + 1, x, M, hx, h0, hn, h5, h11, h2, h3, h1, hk => by
    rw [sd_X9_lowestIn_L23]
    unfold d_X9_lowestIn_L23_body
    rw [if_neg (by rw [I_lt (by unfold sm; omega) (by unfold sm; omega)]; omega), cl_0, wq_bd]
    refine wp_mono (fore_0 h5 h11 _) (fun r M1 q => ?_)
    have e : M1 144 = M 144 := q.2.1 144 (by decide)
    have ep : M1 143 10 = pN (x - 1 + 1) := by rw [q.1, h1, h2, h3]; rfl
    have ih := lin_0 hT (kx := kx) (Q := Q) d n (x + 1) M1 (by omega) (by omega) (by omega) (by rw [e]; exact h5) (by rw [q.2.2 11 (by decide)]; exact h11) (by rw [e]; exact h2) (by rw [e]; exact h3) (by rw [ep, show x + 1 - 1 = x - 1 + 1 by omega]) hk
    rw [show x + 1 - 1 = x - 1 + 1 by omega] at ih
    unfold lR at ih
    rw [wq_ite, ep]
    unfold d_X9_lowestIn_B56
    rw [wq_bnd, wq_bnd, show (I x + 1 : Int32) = I ((x + 1 : Nat) : Int) from (I_nat x).symm]
    by_cases c : lR (x - 1) ≤ pN (x - 1 + 1)
    · rw [if_pos c] at ih ⊢
      exact ih
    · rw [if_neg c] at ih ⊢
      exact ih
  | _, 0, _, _, _, _, hn, _, _, _, _, _, _ => absurd hn (by omega)
theorem q1_lowestIn {M : Mem} (h : R0 M) (a : Int32) : wp (d_X9_lowestIn a M) (fun r _ => r = if 1 ≤ a ∧ a ≤ 200 then lC a.toInt.toNat else -2) := by
  obtain ⟨g0, g1, g2, g3, g4, g5, g6, g7, g8, g9, g10, g11, g12⟩ := r0_now h
  simp only [d_X9_lowestIn, s_in, wq_bd, wq_some, wq_ite, wq_bnd]
  by_cases c1 : 1 ≤ a ∧ a ≤ 200
  · simp only [if_pos c1]
    rw [if_neg (by decide)]
    obtain ⟨e, e1, e2⟩ := small_nat c1 (by decide)
    have e3 : a.toInt.toNat ≤ 200 := e2
    have e4 : 1 ≤ a.toInt.toNat := e1
    refine wp_mono (begR h) (fun r M1 q => ?_)
    obtain ⟨q1, q2, q3, q4, q5⟩ := q
    rw [lC_lR _ (by omega) (by omega)]
    clear c1 e1 e2
    generalize a.toInt.toNat = T at e e3
    subst e
    refine lin_0 e3 T fuelN 1 M1 (by omega) (by omega) (by unfold fuelN; omega) q2 q3 q4 q5 q1 (fun M2 => ?_)
    rw [wq_some]
  · simp only [if_neg c1]
    simp
theorem atick_0 {M : Mem} (h : M 144 5 = 0) (hw : M 144 6 = 0) : wp (d_X9_aTick M) (fun r M1 => r = 0 ∧ M1 144 5 = 0 ∧ M1 144 6 = 0) := by
  have key : ∀ (v : Int32) (M1 : Mem), M1 144 5 = 0 → M1 144 6 = 0 → wp (d_X9_aTick_B60 v 1 M1) (fun r M2 => r = 0 ∧ M2 144 5 = 0 ∧ M2 144 6 = 0) := by
    intro v M1 e1 e2
    have e3 : (mup M1 144 1 v) 144 5 = 0 := by rw [mup_a, if_pos rfl, if_neg (by decide)]; exact e1
    have e4 : (mup M1 144 1 v) 144 6 = 0 := by rw [mup_a, if_pos rfl, if_neg (by decide)]; exact e2
    unfold d_X9_aTick_B60
    rw [cl_1, wq_bnd, ud_X9_aTick_L65, t_1]
    unfold d_X9_aTick_L65_body
    rw [cl_5, t_5, e3, if_pos (by decide)]
    dsimp only
    rw [ud_X9_aTick_L99]
    unfold d_X9_aTick_L99_body
    rw [cl_6, t_6, e4, if_pos (by decide)]
    rw [wq_some]
    exact ⟨rfl, e3, e4⟩
  unfold d_X9_aTick
  simp only [cl_0, cl_1, cl_2, cl_3, wq_bnd, wq_ite, t_0, t_1, t_2, t_3]
  have f : ∀ v w : Int32, (mup (mup M 144 0 v) 144 1 w) 144 5 = 0 ∧ (mup (mup M 144 0 v) 144 1 w) 144 6 = 0 := fun v w => by
    refine ⟨?_, ?_⟩
    · rw [mup_a, if_pos rfl, if_neg (by decide), mup_a, if_pos rfl, if_neg (by decide)]; exact h
    · rw [mup_a, if_pos rfl, if_neg (by decide), mup_a, if_pos rfl, if_neg (by decide)]; exact hw
  split
  · exact key _ _ (f _ _).1 (f _ _).2
  · exact key _ _ (f _ _).1 (f _ _).2
theorem pas_0 {T : Nat} (hT : T ≤ 200) {kx : Int32 → Mem → Ans} {Q : Int32 → Mem → Prop} : ∀ (d n x : Nat) (M : Mem), x + d = T → d < n → M 144 5 = 0 → M 144 6 = 0 → (∀ M1 : Mem, wp (kx 0 M1) Q) → wp (d_X9_pass_L39 (I T) kx n 0 (I x) M) Q
  | 0, n + 1, x, M, hx, hn, h5, h6, hk => by
    rw [sd_X9_pass_L39]
    unfold d_X9_pass_L39_body
    rw [if_pos (by rw [I_le (by unfold sm; omega) (by unfold sm; omega)]; omega)]
    exact hk M
  | d + 1, n + 1, x, M, hx, hn, h5, h6, hk => by
    rw [sd_X9_pass_L39]
    unfold d_X9_pass_L39_body
    rw [if_neg (by rw [I_le (by unfold sm; omega) (by unfold sm; omega)]; omega), wq_bd]
    refine wp_mono (atick_0 h5 h6) (fun r M1 q => ?_)
    obtain ⟨rfl, q1, q2⟩ := q
    rw [wq_bnd, wq_bnd, show (I x + 1 : Int32) = I ((x + 1 : Nat) : Int) from (I_nat x).symm]
    exact pas_0 hT d n (x + 1) _ (by omega) (by omega) q1 q2 hk
  | _, 0, _, _, _, hn, _, _, _ => absurd hn (by omega)
theorem q1_pass {M : Mem} (h : R0 M) (a : Int32) : wp (d_X9_pass a M) (fun r _ => r = if 1 ≤ a ∧ a ≤ 200 then 0 else -2) := by
  obtain ⟨g0, g1, g2, g3, g4, g5, g6, g7, g8, g9, g10, g11, g12⟩ := r0_now h
  simp only [d_X9_pass, s_in, wq_bd, wq_some, wq_ite, wq_bnd, cl_0, t_0, g0]
  by_cases c1 : 1 ≤ a ∧ a ≤ 200
  · simp only [if_pos c1]
    rw [if_neg (by decide), if_pos (by rw [Int32.zero_add]; exact Int32.le_trans c1.2 (by decide))]
    obtain ⟨e, -, e2⟩ := small_nat c1 (by decide)
    have e3 : a.toInt.toNat ≤ 200 := e2
    refine wp_mono (record_0 g7) (fun r M1 hM => ?_)
    have e5 : M1 144 = M 144 := hM.1 144 (by decide) (by decide)
    clear c1
    generalize a.toInt.toNat = T at e e3
    subst e
    refine pas_0 e3 T fuelN 0 M1 (by omega) (by unfold fuelN; omega) (by rw [e5]; exact g5) (by rw [e5]; exact g6) (fun M2 => ?_)
    rw [wq_some]
  · simp only [if_neg c1]
    simp
theorem q1_type {M : Mem} (h : R0 M) (a : Int32) : wp (d_X9_type a M) (fun r _ => r = 1) := by
  obtain ⟨g0, g1, g2, g3, g4, g5, g6, g7, g8, g9, g10, g11, g12⟩ := r0_now h
  simp only [d_X9_type, wq_some, wq_ite, wq_bnd, wq_chk, g12, mup_a]
  simp [g12]
theorem q1_clearText {M : Mem} (h : R0 M) : wp (d_X9_clearText M) (fun r _ => r = 0) := by
  obtain ⟨g0, g1, g2, g3, g4, g5, g6, g7, g8, g9, g10, g11, g12⟩ := r0_now h
  simp only [d_X9_clearText, wq_some, wq_bnd, g12]
theorem q1_undo {M : Mem} (h : R0 M) : wp (d_X9_undo M) (fun r _ => r = -5) := by
  obtain ⟨g0, g1, g2, g3, g4, g5, g6, g7, g8, g9, g10, g11, g12⟩ := r0_now h
  simp only [d_X9_undo, wq_some, wq_ite, g7]
  simp
theorem q1_restore {M : Mem} (h : R0 M) : wp (d_X9_restore M) (fun r _ => r = -5) := by
  obtain ⟨g0, g1, g2, g3, g4, g5, g6, g7, g8, g9, g10, g11, g12⟩ := r0_now h
  simp only [d_X9_restore, wq_some, wq_ite, g8]
  simp
theorem kp_0 {kx : Mem → Ans} {Q : Int32 → Mem → Prop} : ∀ (d n x : Nat) (M : Mem), x + d = 366 → d < n → (∀ M1 : Mem, (∀ i, i ≠ 146 → M1 i = M i) → wp (kx M1) Q) → wp (d_X9_keep_L2 kx n (I x) M) Q
  | 0, n + 1, x, M, hx, hn, hk => by
    rw [sd_X9_keep_L2]
    unfold d_X9_keep_L2_body
    rw [if_pos (by rw [show (366 : Int32) = I 366 from rfl, I_le (by unfold sm; omega) (by unfold sm; omega)]; omega)]
    exact hk M (fun _ _ => rfl)
  | d + 1, n + 1, x, M, hx, hn, hk => by
    rw [sd_X9_keep_L2]
    unfold d_X9_keep_L2_body
    rw [if_neg (by rw [show (366 : Int32) = I 366 from rfl, I_le (by unfold sm; omega) (by unfold sm; omega)]; omega), wq_chk, wq_chk]
    refine ⟨?_, ?_, ?_⟩
    · rw [show (0 : Int32) = I 0 from rfl, I_lt (by unfold sm; omega) (by unfold sm; omega), I_clamp (by unfold sm; omega)]; omega
    · rw [show (0 : Int32) = I 0 from rfl, I_lt (by unfold sm; omega) (by unfold sm; omega), I_clamp (by unfold sm; omega)]; omega
    · rw [wq_bnd, wq_bnd, show (I x + 1 : Int32) = I ((x + 1 : Nat) : Int) from (I_nat x).symm]
      refine kp_0 d n (x + 1) _ (by omega) (by omega) (fun M1 hM => hk M1 (fun i hi => ?_))
      rw [hM i hi, mup_n hi]
  | _, 0, _, _, _, hn, _ => absurd hn (by omega)
theorem q1_keep {M : Mem} (h : R0 M) : wp (d_X9_keep M) (fun r _ => r = 0) := by
  obtain ⟨g0, g1, g2, g3, g4, g5, g6, g7, g8, g9, g10, g11, g12⟩ := r0_now h
  unfold d_X9_keep
  refine kp_0 366 fuelN 0 M (by omega) (by unfold fuelN; omega) (fun M1 hM => ?_)
  simp only [wq_bnd, cl_0, t_0, wq_some]
  rw [mup_n (by decide), hM 144 (by decide)]
  exact g0
theorem q1_bookAll {M : Mem} (h : R0 M) : wp (d_X9_bookAll M) (fun r _ => r = -100) := by
  obtain ⟨g0, g1, g2, g3, g4, g5, g6, g7, g8, g9, g10, g11, g12⟩ := r0_now h
  simp only [d_X9_bookAll, d_X9_bookingsOfText, ud_X9_bookingsOfText_L9, d_X9_bookingsOfText_L9_body, d_X9_takesBooking, d_X9_takesNumber, d_X9_isDigit, wq_bd, wq_some, wq_ite, wq_bnd, mup_a]
  simp [g12]
theorem bks_0 {M : Mem} (h : M 144 5 = 0) (a b c d : Int32) : d_X9_bookings a b c d M = some (0, M) := by
  simp only [d_X9_bookings, ud_X9_bookings_L6, d_X9_bookings_L6_body, cl_5, t_5, h]
  rw [if_pos (by decide)]
theorem kpr_0 {M : Mem} (h : M 144 5 = 0) (a b c d : Int32) : d_X9_keeper a b c d M = some (-5, M) := by
  simp only [d_X9_keeper, ud_X9_keeper_L3, d_X9_keeper_L3_body, cl_5, t_5, h]
  rw [if_pos (by decide)]
theorem q1_robot {M : Mem} (h : R0 M) (a b : Int32) : wp (d_X9_robot a b M) (fun r _ => r = if 0 ≤ a ∧ a ≤ 5 then (if b = 0 then 0 else if b = 1 then 0 else if b = 2 then 0 else if b = 3 then 0 else -2) else -1) := by
  obtain ⟨g0, g1, g2, g3, g4, g5, g6, g7, g8, g9, g10, g11, g12⟩ := r0_now h
  simp only [d_X9_robot, s_noRobot, ud_X9_robot_L85, d_X9_robot_L85_body, kpr_0 g5, bks_0 g5, wq_bd, wq_some, wq_ite, wq_bnd, cl_0, t_0, g0]
  by_cases c1 : 0 ≤ a ∧ a ≤ 5
  · by_cases d0 : b = 0 <;> by_cases d1 : b = 1 <;> by_cases d2 : b = 2 <;> by_cases d3 : b = 3 <;> simp [c1, d0, d1, d2, d3]
  · simp [c1]
theorem rpR_0 {kx : Mem → Ans} {Q : Int32 → Mem → Prop} : ∀ (d n x : Nat) (M : Mem), x + d = 60 → d < n → (∀ M1 : Mem, (∀ i, i ≠ 152 → M1 i = M i) → wp (kx M1) Q) → wp (d_X9_repair_L2 kx n (I x) M) Q
  | 0, n + 1, x, M, hx, hn, hk => by
    rw [sd_X9_repair_L2]
    unfold d_X9_repair_L2_body
    rw [if_pos (by rw [show (60 : Int32) = I 60 from rfl, I_le (by unfold sm; omega) (by unfold sm; omega)]; omega)]
    exact hk M (fun _ _ => rfl)
  | d + 1, n + 1, x, M, hx, hn, hk => by
    rw [sd_X9_repair_L2]
    unfold d_X9_repair_L2_body
    rw [if_neg (by rw [show (60 : Int32) = I 60 from rfl, I_le (by unfold sm; omega) (by unfold sm; omega)]; omega), wq_chk]
    refine ⟨?_, ?_⟩
    · rw [show (0 : Int32) = I 0 from rfl, I_lt (by unfold sm; omega) (by unfold sm; omega), I_clamp (by unfold sm; omega)]; omega
    · rw [wq_bnd, wq_bnd, show (I x + 1 : Int32) = I ((x + 1 : Nat) : Int) from (I_nat x).symm]
      refine rpR_0 d n (x + 1) _ (by omega) (by omega) (fun M1 hM => hk M1 (fun i hi => ?_))
      rw [hM i hi, mup_n hi]
  | _, 0, _, _, _, hn, _ => absurd hn (by omega)
theorem q1_repair {M : Mem} (h : R0 M) : wp (d_X9_repair M) (fun r _ => r = -5) := by
  obtain ⟨g0, g1, g2, g3, g4, g5, g6, g7, g8, g9, g10, g11, g12⟩ := r0_now h
  unfold d_X9_repair
  refine rpR_0 60 fuelN 0 M (by omega) (by unfold fuelN; omega) (fun M1 hM => ?_)
  simp only [d_X9_sick, wq_bd]
  refine wp_mono (forecast_0 (by rw [hM 144 (by decide)]; exact g5) (by rw [hM 143 (by decide)]; exact g9)) (fun r M2 q => ?_)
  have e : M2 144 5 = 0 := by rw [q.1 144 (by decide) (by decide) (by decide) (by decide), hM 144 (by decide)]; exact g5
  simp only [ud_X9_sick_L6, d_X9_sick_L6_body, cl_5, t_5, e]
  simp [wq_some, wq_ite]
theorem q1_count {M : Mem} (h : R0 M) (a : Int32) : wp (d_X9_count a M) (fun r _ => r = spCount a) := by
  obtain ⟨g0, g1, g2, g3, g4, g5, g6, g7, g8, g9, g10, g11, g12⟩ := r0_now h
  unfold spCount
  have g15 : M 144 7 = 0 := by rw [h 144 (by decide)]; rfl
  have g16 : M 144 8 = 0 := by rw [h 144 (by decide)]; rfl
  have g17 : M 144 9 = 0 := by rw [h 144 (by decide)]; rfl
  simp only [d_X9_count, d_X9_count_B130, bks_0 g5, wq_bd, wq_some, wq_ite, t_0, cl_0, t_1, cl_1, t_2, cl_2, t_3, cl_3, t_4, cl_4, t_5, cl_5, t_6, cl_6, t_7, cl_7, t_8, cl_8, t_9, cl_9, g0, g1, g2, g3, g4, g5, g6, g7, g12, g15, g16, g17]
  by_cases d0 : a = 0
  · subst d0; simp
  by_cases d1 : a = 1
  · subst d1; simp
  by_cases d2 : a = 2
  · subst d2; simp
  by_cases d3 : a = 3
  · subst d3; simp
  by_cases d4 : a = 4
  · subst d4; simp
  by_cases d5 : a = 5
  · subst d5; simp
  by_cases d6 : a = 6
  · subst d6; simp
  by_cases d7 : a = 7
  · subst d7; simp
  by_cases d8 : a = 8
  · subst d8; simp
  by_cases d9 : a = 9
  · subst d9; simp
  by_cases d10 : a = 10
  · subst d10; simp
  by_cases d11 : a = 11
  · subst d11; refine wp_mono (doomedR_0 g5 g9) (fun r M1 hr => ?_); simp [hr]
  by_cases d12 : a = 12
  · subst d12; simp
  by_cases d13 : a = 13
  · subst d13; simp
  by_cases d14 : a = 14
  · subst d14; simp
  by_cases d15 : a = 15
  · subst d15; simp
  by_cases d16 : a = 16
  · subst d16; simp
  by_cases d17 : a = 17
  · subst d17; simp
  simp [d0, d1, d2, d3, d4, d5, d6, d7, d8, d9, d10, d11, d12, d13, d14, d15, d16, d17]
