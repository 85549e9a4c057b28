theorem rec_0 {kx : Mem → Ans} {Q : Int32 → Mem → Prop} : ∀ (d n x : Nat) (M : Mem), x + d = 366 → d < n → M 143 2 = 0 → (∀ M1 : Mem, (∀ i, i ≠ 145 → M1 i = M i) → wp (kx M1) Q) → wp (d_X9_record_L51 kx n (I x) M) Q
  | 0, n + 1, x, M, hx, hn, h2, hk => by
    rw [sd_X9_record_L51]
    unfold d_X9_record_L51_body
    rw [if_pos (by rw [show (366 : Int32) = I 366 from rfl, I_le (by unfold sm; omega) (by unfold sm; omega)]; omega)]
    exact hk M (fun _ _ => rfl)
  | d + 1, n + 1, x, M, hx, hn, h2, hk => by
    rw [sd_X9_record_L51]
    unfold d_X9_record_L51_body
    rw [if_neg (by rw [show (366 : Int32) = I 366 from rfl, I_le (by unfold sm; omega) (by unfold sm; omega)]; omega), h2, Int32.mul_zero, Int32.zero_add, wq_chk, wq_chk]
    refine ⟨?_, ?_, ?_⟩
    · rw [show (0 : Int32) = I 0 from rfl, I_lt (by unfold sm; omega) (by unfold sm; omega), I_clamp (by unfold sm; omega)]; omega
    · rw [show (0 : Int32) = I 0 from rfl, I_lt (by unfold sm; omega) (by unfold sm; omega), I_clamp (by unfold sm; omega)]; omega
    · rw [wq_bnd, wq_bnd, show (I x + 1 : Int32) = I ((x + 1 : Nat) : Int) from (I_nat x).symm]
      refine rec_0 d n (x + 1) _ (by omega) (by omega) (by rw [mup_n (by decide)]; exact h2) (fun M1 hM => hk M1 (fun i hi => ?_))
      rw [hM i hi, mup_n hi]
  | _, 0, _, _, _, hn, _, _ => absurd hn (by omega)
theorem record_0 {M : Mem} (h : M 143 2 = 0) : wp (d_X9_record M) (fun _ M1 => (∀ i, i ≠ 145 → i ≠ 143 → M1 i = M i) ∧ ∀ j, j ≠ 2 → M1 143 j = M 143 j) := by
  unfold d_X9_record
  rw [h, if_neg (by decide)]
  unfold d_X9_record_B49
  refine rec_0 366 fuelN 0 M (by omega) (by unfold fuelN; omega) h (fun M1 hM => ?_)
  simp only [wq_bnd, wq_some]
  refine ⟨fun i h1 h2 => by rw [mup_n h2, hM i h1], fun j hj => ?_⟩
  rw [mup_a, if_pos rfl, if_neg hj, hM 143 (by decide)]
theorem beg_0 {kx : Mem → Ans} {Q : Int32 → Mem → Prop} : ∀ (d n x : Nat) (M : Mem), x + d = 61 → d < n → M 144 5 = 0 → (∀ M1 : Mem, (∀ i, i ≠ 148 → i ≠ 149 → i ≠ 150 → M1 i = M i) → wp (kx M1) Q) → wp (d_X9_begins_L12 kx n (I x) M) Q
  | 0, n + 1, x, M, hx, hn, h5, hk => by
    rw [sd_X9_begins_L12]
    unfold d_X9_begins_L12_body
    rw [if_pos (by rw [show (60 : Int32) = I 60 from rfl, I_lt (by unfold sm; omega) (by unfold sm; omega)]; omega)]
    exact hk M (fun _ _ _ _ => rfl)
  | d + 1, n + 1, x, M, hx, hn, h5, hk => by
    rw [sd_X9_begins_L12]
    unfold d_X9_begins_L12_body
    rw [if_neg (by rw [show (60 : Int32) = I 60 from rfl, I_lt (by unfold sm; omega) (by unfold sm; omega)]; omega), cl_5, t_5, h5, if_pos (by rw [show (0 : Int32) = I 0 from rfl, I_le (by unfold sm; omega) (by unfold sm; omega)]; omega)]
    unfold d_X9_begins_B43
    rw [wq_chk]
    refine ⟨?_, ?_⟩
    · rw [show (0 : Int32) = I 0 from rfl, I_lt (by unfold sm; omega) (by unfold sm; omega), I_clamp (by unfold sm; omega)]; omega
    rw [wq_bnd, wq_chk]
    refine ⟨?_, ?_⟩
    · rw [show (0 : Int32) = I 0 from rfl, I_lt (by unfold sm; omega) (by unfold sm; omega), I_clamp (by unfold sm; omega)]; omega
    rw [wq_bnd, wq_chk]
    refine ⟨?_, ?_⟩
    · rw [show (0 : Int32) = I 0 from rfl, I_lt (by unfold sm; omega) (by unfold sm; omega), I_clamp (by unfold sm; omega)]; omega
    rw [wq_bnd, wq_bnd, show (I x + 1 : Int32) = I ((x + 1 : Nat) : Int) from (I_nat x).symm]
    refine beg_0 d n (x + 1) _ (by omega) (by omega) (by rw [mup_n (by decide), mup_n (by decide), mup_n (by decide)]; exact h5) (fun M1 hM => hk M1 (fun i h1 h2 h3 => ?_))
    rw [hM i h1 h2 h3, mup_n h3, mup_n h2, mup_n h1]
  | _, 0, _, _, _, hn, _, _ => absurd hn (by omega)
theorem begins_0 {M : Mem} (h : M 144 5 = 0) : wp (d_X9_begins M) (fun _ M1 => M1 143 10 = M 144 1 ∧ (∀ i, i ≠ 143 → i ≠ 148 → i ≠ 149 → i ≠ 150 → M1 i = M i) ∧ ∀ j, j ≠ 10 → M1 143 j = M 143 j) := by
  unfold d_X9_begins
  rw [cl_1, wq_bnd]
  refine beg_0 61 fuelN 0 _ (by omega) (by unfold fuelN; omega) (by rw [mup_n (by decide)]; exact h) (fun M1 hM => ?_)
  rw [wq_some]
  refine ⟨?_, fun i h1 h2 h3 h4 => ?_, fun j hj => ?_⟩
  · rw [hM 143 (by decide) (by decide) (by decide), mup_a, if_pos rfl, if_pos rfl, t_1]
  · rw [hM i h2 h3 h4, mup_n h1]
  · rw [hM 143 (by decide) (by decide) (by decide), mup_a, if_pos rfl, if_neg hj]
theorem fore_0 {M : Mem} (h : M 144 5 = 0) (hx : M 143 11 = -1) (t : Int32) : wp (d_X9_foresees t M) (fun _ M1 => M1 143 10 = imin (M 144 2) (M 143 10 + M 144 3) ∧ (∀ i, i ≠ 143 → M1 i = M i) ∧ ∀ j, j ≠ 10 → M1 143 j = M 143 j) := by
  have key : ∀ (s : Int32) (M1 : Mem), (∀ i, i ≠ 143 → M1 i = M i) → (∀ j, j ≠ 10 → M1 143 j = M 143 j) → wp (d_X9_foresees_B42 t s M1) (fun _ M2 => M2 143 10 = s ∧ (∀ i, i ≠ 143 → M2 i = M i) ∧ ∀ j, j ≠ 10 → M2 143 j = M 143 j) := by
    intro s M1 e1 e2
    unfold d_X9_foresees_B42
    rw [wq_bnd, ud_X9_foresees_L47]
    unfold d_X9_foresees_L47_body
    rw [cl_5, t_5, mup_n (by decide), e1 144 (by decide), h, if_pos (by decide)]
    dsimp only
    rw [show mup M1 143 10 s 143 11 = -1 from by rw [mup_a, if_pos rfl, if_neg (by decide), e2 11 (by decide), hx], if_pos (by decide), wq_some]
    refine ⟨by rw [mup_a, if_pos rfl, if_pos rfl], fun i hi => by rw [mup_n hi, e1 i hi], fun j hj => by rw [mup_a, if_pos rfl, if_neg hj, e2 j hj]⟩
  unfold d_X9_foresees
  rw [cl_3, wq_bnd, cl_2, cl_2, wq_ite]
  have f1 : ∀ v : Int32, ∀ i, i ≠ 143 → (mup M 143 10 v) i = M i := fun v i hi => mup_n hi
  have f2 : ∀ v : Int32, ∀ j, j ≠ 10 → (mup M 143 10 v) 143 j = M 143 j := fun v j hj => by rw [mup_a, if_pos rfl, if_neg hj]
  simp only [mup_a, if_true, t_2, t_3, show ((144 : Nat) = 143) = False from by decide, if_false]
  by_cases c : M 143 10 + M 144 3 ≤ M 144 2
  · rw [if_pos c]
    refine wp_mono (key _ _ (f1 _) (f2 _)) (fun r M2 q => ⟨q.1.trans ?_, q.2⟩)
    unfold imin
    by_cases d : M 143 10 + M 144 3 < M 144 2
    · rw [if_pos d]
    · rw [if_neg d]; exact Int32.le_antisymm c (Int32.not_lt.mp d)
  · rw [if_neg c]
    refine wp_mono (key _ _ (f1 _) (f2 _)) (fun r M2 q => ⟨q.1.trans ?_, q.2⟩)
    unfold imin
    rw [if_neg (fun d => c (Int32.le_of_lt d))]
theorem fc_0 {kx : Mem → Ans} {Q : Int32 → Mem → Prop} : ∀ (d n x : Nat) (M : Mem), x + d = 81 → d < n → M 144 5 = 0 → M 143 11 = -1 → (∀ M1 : Mem, (∀ i, i ≠ 143 → M1 i = M i) → (∀ j, j ≠ 10 → M1 143 j = M 143 j) → wp (kx M1) Q) → wp (d_X9_forecast_L6 kx n (I x) M) Q
  | 0, n + 1, x, M, hx, hn, h5, h11, hk => by
    rw [sd_X9_forecast_L6]
    unfold d_X9_forecast_L6_body
    rw [if_pos (by rw [show (80 : Int32) = I 80 from rfl, I_lt (by unfold sm; omega) (by unfold sm; omega)]; omega)]
    exact hk M (fun _ _ => rfl) (fun _ _ => rfl)
  | d + 1, n + 1, x, M, hx, hn, h5, h11, hk => by
    rw [sd_X9_forecast_L6]
    unfold d_X9_forecast_L6_body
    rw [if_neg (by rw [show (80 : Int32) = I 80 from rfl, I_lt (by unfold sm; omega) (by unfold sm; omega)]; omega), cl_0, wq_bd]
    refine wp_mono (fore_0 h5 h11 _) (fun r M1 q => ?_)
    rw [wq_bnd, show (I x + 1 : Int32) = I ((x + 1 : Nat) : Int) from (I_nat x).symm]
    refine fc_0 d n (x + 1) _ (by omega) (by omega) (by rw [q.2.1 144 (by decide)]; exact h5) (by rw [q.2.2 11 (by decide)]; exact h11) (fun M2 e1 e2 => hk M2 (fun i hi => ?_) (fun j hj => ?_))
    · rw [e1 i hi, q.2.1 i hi]
    · rw [e2 j hj, q.2.2 j hj]
  | _, 0, _, _, _, hn, _, _, _ => absurd hn (by omega)
theorem forecast_0 {M : Mem} (h : M 144 5 = 0) (hx : M 143 11 = -1) : wp (d_X9_forecast M) (fun _ M1 => (∀ i, i ≠ 143 → i ≠ 148 → i ≠ 149 → i ≠ 150 → M1 i = M i) ∧ ∀ j, j ≠ 10 → M1 143 j = M 143 j) := by
  unfold d_X9_forecast
  rw [wq_bd]
  refine wp_mono (begins_0 h) (fun r M1 q => ?_)
  refine fc_0 80 fuelN 1 M1 (by omega) (by unfold fuelN; omega) (by rw [q.2.1 144 (by decide) (by decide) (by decide) (by decide)]; exact h) (by rw [q.2.2 11 (by decide)]; exact hx) (fun M2 e1 e2 => ?_)
  rw [wq_some]
  exact ⟨fun i h1 h2 h3 h4 => by rw [e1 i h1, q.2.1 i h1 h2 h3 h4], fun j hj => by rw [e2 j hj, q.2.2 j hj]⟩
theorem doomedR_0 {M : Mem} (h : M 144 5 = 0) (hx : M 143 11 = -1) : wp (d_X9_doomed M) (fun r _ => r = 0) := by
  unfold d_X9_doomed
  rw [wq_bd]
  refine wp_mono (forecast_0 h hx) (fun r M1 q => ?_)
  rw [ud_X9_doomed_L8]
  unfold d_X9_doomed_L8_body
  rw [cl_5, t_5, q.1 144 (by decide) (by decide) (by decide) (by decide), h, if_pos (by decide), wq_some]
theorem q1_setHeat {M : Mem} (h : R0 M) (a : Int32) : wp (d_X9_setHeat a M) (fun r _ => r = if 0 ≤ a ∧ a ≤ 300 then (if a = 20 then -5 else 0) else -2) := by
  obtain ⟨g0, g1, g2, g3, g4, g5, g6, g7, g8, g9, g10, g11, g12⟩ := r0_now h
  simp only [d_X9_setHeat, s_in, wq_bd, wq_some, wq_ite, wq_bnd, t_0, cl_0, t_1, cl_1, t_2, cl_2, t_3, cl_3, t_4, cl_4, t_5, cl_5, t_6, cl_6, t_7, cl_7, t_8, cl_8, g3]
  by_cases c1 : 0 ≤ a ∧ a ≤ 300
  · simp only [if_pos c1]
    rw [if_neg (by decide)]
    by_cases c2 : a = 20
    · rw [if_pos c2.symm, if_pos c2]
    · rw [if_neg (fun e => c2 e.symm), if_neg c2]
      refine wp_mono (record_0 g7) (fun r M1 hM => ?_)
      refine wp_mono (doomedR_0 ?_ ?_) (fun r M2 hr => hr)
      · rw [mup_a, if_pos rfl, if_neg (by decide), hM.1 144 (by decide) (by decide)]; exact g5
      · rw [mup_n (by decide), hM.2 11 (by decide)]; exact g9
  · simp only [if_neg c1]
    simp
theorem q1_setMost {M : Mem} (h : R0 M) (a : Int32) : wp (d_X9_setMost a M) (fun r _ => r = if 100 ≤ a ∧ a ≤ 3000 then (if a = 1500 then -5 else if a < 900 then a else 900) else -2) := by
  obtain ⟨g0, g1, g2, g3, g4, g5, g6, g7, g8, g9, g10, g11, g12⟩ := r0_now h
  simp only [d_X9_setMost, d_X9_setMost_B64, s_in, wq_bd, wq_some, wq_ite, wq_bnd, t_0, cl_0, t_1, cl_1, t_2, cl_2, t_3, cl_3, t_4, cl_4, t_5, cl_5, t_6, cl_6, t_7, cl_7, t_8, cl_8, g2]
  by_cases c1 : 100 ≤ a ∧ a ≤ 3000
  · simp only [if_pos c1]
    rw [if_neg (by decide)]
    by_cases c2 : a = 1500
    · rw [if_pos c2.symm, if_pos c2]
    · rw [if_neg (fun e => c2 e.symm), if_neg c2]
      refine wp_mono (record_0 g7) (fun r M1 hM => ?_)
      simp only [mup_a, if_true, hM.1 144 (by decide) (by decide), g1, show ((1 : Nat) = 2) = False from by decide, if_false]
      by_cases c3 : 900 ≤ a
      · rw [if_pos c3, if_neg (Int32.not_lt.mpr c3)]
      · rw [if_neg c3, if_pos (Int32.not_le.mp c3)]
  · simp only [if_neg c1]
    simp
theorem q1_fall {M : Mem} (h : R0 M) (a : Int32) : wp (d_X9_fall a M) (fun r _ => r = if 1 ≤ a ∧ a ≤ 3000 then 0 else -2) := by
  obtain ⟨g0, g1, g2, g3, g4, g5, g6, g7, g8, g9, g10, g11, g12⟩ := r0_now h
  have key : ∀ (v s : Int32) (M1 : Mem), M1 144 5 = 0 → M1 143 11 = -1 → wp (d_X9_doomed (mup M1 144 1 v)) (fun r _ => r = 0) := by
    intro v s M1 e1 e2
    exact doomedR_0 (by rw [mup_a, if_pos rfl, if_neg (by decide)]; exact e1) (by rw [mup_n (by decide)]; exact e2)
  simp only [d_X9_fall, d_X9_fall_B53, s_in, wq_bd, wq_some, wq_ite, wq_bnd, t_0, cl_0, t_1, cl_1, t_2, cl_2, t_3, cl_3, t_4, cl_4, t_5, cl_5, t_6, cl_6, t_7, cl_7, t_8, cl_8, g1]
  by_cases c1 : 1 ≤ a ∧ a ≤ 3000
  · simp only [if_pos c1]
    rw [if_neg (by decide), if_neg (by decide)]
    refine wp_mono (record_0 g7) (fun r M1 hM => ?_)
    have k1 : M1 144 5 = 0 := by rw [hM.1 144 (by decide) (by decide)]; exact g5
    have k2 : M1 143 11 = -1 := by rw [hM.2 11 (by decide)]; exact g9
    split
    · exact key _ 0 M1 k1 k2
    · exact key _ 0 M1 k1 k2
  · simp only [if_neg c1]
    simp
