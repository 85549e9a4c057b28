/-! pressureIn, lowestIn, booking, count -/
theorem lowS_e {S : Nat → Int} {ps : List Nat} (hs : ScOk S ps) {z w : Int} (hz : 3000 ≤ z) (hw : 3000 ≤ w) : ∀ n, lowS S ps z (n + 1) = lowS S ps w (n + 1)
  | 0 => by
    have := (run_FI hs 1).1
    show min z (runS S ps 1).1 = min w (runS S ps 1).1
    omega
  | n + 1 => by
    have ih := lowS_e hs hz hw n
    unfold lowS
    rw [ih]
theorem beg_plain {S : Nat → Int} {W : List Wi} (hi : SInv (S, W)) {M : Mem} (hc : cv 0 M (S, W)) : wp (d_X1_begin 0 0 M) (fun _ M1 => crN 0 M1 S (rl S (-1) false) 0 ∧ cqf M M1) := by
  have h4 := (si_n hi).2.2.2.2.1
  have hs := ok_plain hi
  unfold d_X1_begin
  rw [wq_bd, show (-1 : Int32) = I (-1) from rfl]
  refine wp_mono (begW_spec (c := 0) hc hi (sc_plain S (-1) (by omega)) (by omega) (by omega) (fun h => absurd rfl h) (by omega) hs) (fun r M1 q => ?_)
  rw [wq_some]
  exact ⟨q.1, fun i hi => q.2 i (by omega)⟩
theorem rpr_L {S : Nat → Int} {W : List Wi} (hi : SInv (S, W)) {N : Nat} (hN : N ≤ 200) {kx : Mem → Ans} {Q : Int32 → Mem → Prop} : ∀ (d n x : Nat) (M : Mem), x + d = N → d < n → rv (M 144) (S, W) → scR M → frc M (runS S (rl S (-1) false) x) → (∀ M1, frc M1 (runS S (rl S (-1) false) N) → fcf M M1 → wp (kx M1) Q) → wp (d_X9_pressureIn_L20 (I N) kx n (I (x + 1 : Nat)) M) Q
  | 0, n + 1, x, M, hx, hn, hr, hsc, h, k => by
    rw [sd_X9_pressureIn_L20]
    unfold d_X9_pressureIn_L20_body
    simp (disch := first | omega | (unfold sm; omega)) only [wq_bd, wq_some, wq_bnd, wq_ite, bnd_e, bd_some, lit_, neg_I, I_lt, I_le, I_eq, I_add, I_sub, I_mul, I_clamp, chk_I, wchk_I, I_succ, Int.toNat_natCast, Int.reduceToNat, b01, b01I, bd_ite, if_true, if_false, ite_self, reduceIte, Int.reduceLE, Int.reduceLT, Int.reduceAdd, Int.reduceSub, Int.reduceNeg, Nat.reduceEqDiff, Nat.reduceAdd]
    rw [if_pos (by omega)]
    have : x = N := by omega
    subst this
    exact k M h (fcf_r M)
  | d + 1, n + 1, x, M, hx, hn, hr, hsc, h, k => by
    have e0 := (rv_n hr).1
    rw [sd_X9_pressureIn_L20]
    unfold d_X9_pressureIn_L20_body
    simp (disch := first | omega | (unfold sm; omega)) only [wq_bd, wq_some, wq_bnd, wq_ite, bnd_e, bd_some, lit_, neg_I, I_lt, I_le, I_eq, I_add, I_sub, I_mul, I_clamp, chk_I, wchk_I, I_succ, Int.toNat_natCast, Int.reduceToNat, b01, b01I, bd_ite, if_true, if_false, ite_self, reduceIte, Int.reduceLE, Int.reduceLT, Int.reduceAdd, Int.reduceSub, Int.reduceNeg, Nat.reduceEqDiff, Nat.reduceAdd, e0]
    rw [if_neg (by omega)]
    have := fore_spec hi (ok_plain hi) (n := x) (by omega) hr (RSc_out (by omega) hsc.2.1 hsc.2.2 hsc.1) h
    rw [show S 0 + (x : Int) + 1 = S 0 + ((x + 1 : Nat) : Int) by omega] at this
    refine wp_mono this (fun r M2 q => ?_)
    obtain ⟨z1, z2⟩ := q
    have hr2 : rv (M2 144) (S, W) := rqf_v (rqf_f z2) hr
    exact rpr_L hi hN d n (x + 1) M2 (by omega) (by omega) hr2 (scR_congr hsc (fun j h1 h2 => z2.2 j (by omega))) z1 (fun M1 y1 y2 => k M1 y1 (fcf_t z2 y2))
  | _, 0, _, _, _, hn, _, _, _, _ => absurd hn (by omega)
theorem rlw_L {S : Nat → Int} {W : List Wi} (hi : SInv (S, W)) {N : Nat} (hN : N ≤ 200) {kx : Int32 → Mem → Ans} {Q : Int32 → Mem → Prop} : ∀ (d n x : Nat) (M : Mem), x + d = N → d < n → rv (M 144) (S, W) → scR M → frc M (runS S (rl S (-1) false) x) → (∀ M1, fcf M M1 → wp (kx (I (lowS S (rl S (-1) false) 99999 N)) M1) Q) → wp (d_X9_lowestIn_L23 (I N) kx n (I (lowS S (rl S (-1) false) 99999 x)) (I (x + 1 : Nat)) M) Q
  | 0, n + 1, x, M, hx, hn, hr, hsc, h, k => by
    rw [sd_X9_lowestIn_L23]
    unfold d_X9_lowestIn_L23_body
    simp (disch := first | omega | (unfold sm; omega)) only [wq_bd, wq_some, wq_bnd, wq_ite, bnd_e, bd_some, lit_, neg_I, I_lt, I_le, I_eq, I_add, I_sub, I_mul, I_clamp, chk_I, wchk_I, I_succ, Int.toNat_natCast, Int.reduceToNat, b01, b01I, bd_ite, if_true, if_false, ite_self, reduceIte, Int.reduceLE, Int.reduceLT, Int.reduceAdd, Int.reduceSub, Int.reduceNeg, Nat.reduceEqDiff, Nat.reduceAdd]
    rw [if_pos (by omega)]
    have : x = N := by omega
    subst this
    exact k M (fcf_r M)
  | d + 1, n + 1, x, M, hx, hn, hr, hsc, h, k => by
    have e0 := (rv_n hr).1
    have hlb := lowS_b (ok_plain hi) (z := 99999) (by omega) x
    have hp := (run_FI (ok_plain hi) (x + 1)).1
    rw [sd_X9_lowestIn_L23]
    unfold d_X9_lowestIn_L23_body
    simp (disch := first | omega | (unfold sm; omega)) only [wq_bd, wq_some, wq_bnd, wq_ite, bnd_e, bd_some, lit_, neg_I, I_lt, I_le, I_eq, I_add, I_sub, I_mul, I_clamp, chk_I, wchk_I, I_succ, Int.toNat_natCast, Int.reduceToNat, b01, b01I, bd_ite, if_true, if_false, ite_self, reduceIte, Int.reduceLE, Int.reduceLT, Int.reduceAdd, Int.reduceSub, Int.reduceNeg, Nat.reduceEqDiff, Nat.reduceAdd, e0]
    rw [if_neg (by omega)]
    have := fore_spec hi (ok_plain hi) (n := x) (by omega) hr (RSc_out (by omega) hsc.2.1 hsc.2.2 hsc.1) h
    rw [show S 0 + (x : Int) + 1 = S 0 + ((x + 1 : Nat) : Int) by omega] at this
    refine wp_mono this (fun r M2 q => ?_)
    obtain ⟨z1, z2⟩ := q
    have hr2 : rv (M2 144) (S, W) := rqf_v (rqf_f z2) hr
    have ih := rlw_L hi hN (kx := kx) (Q := Q) d n (x + 1) M2 (by omega) (by omega) hr2 (scR_congr hsc (fun j h1 h2 => z2.2 j (by omega))) z1 (fun M1 y => k M1 (fcf_t z2 y))
    rw [z1.1]
    unfold lowS at ih
    simp (disch := first | omega | (unfold sm; omega)) only [wq_bd, wq_some, wq_bnd, wq_ite, bnd_e, bd_some, lit_, neg_I, I_lt, I_le, I_eq, I_add, I_sub, I_mul, I_clamp, chk_I, wchk_I, I_succ, Int.toNat_natCast, Int.reduceToNat, b01, b01I, bd_ite, if_true, if_false, ite_self, reduceIte, Int.reduceLE, Int.reduceLT, Int.reduceAdd, Int.reduceSub, Int.reduceNeg, Nat.reduceEqDiff, Nat.reduceAdd, d_X9_lowestIn_B56]
    by_cases c : lowS S (rl S (-1) false) 99999 x ≤ (runS S (rl S (-1) false) (x + 1)).1
    · rw [if_pos c]
      rw [show min (lowS S (rl S (-1) false) 99999 x) (runS S (rl S (-1) false) (x + 1)).1 = lowS S (rl S (-1) false) 99999 x by omega] at ih
      exact ih
    · rw [if_neg c]
      rw [show min (lowS S (rl S (-1) false) 99999 x) (runS S (rl S (-1) false) (x + 1)).1 = (runS S (rl S (-1) false) (x + 1)).1 by omega] at ih
      exact ih
  | _, 0, _, _, _, hn, _, _, _, _ => absurd hn (by omega)
theorem b_pressureIn (p : Int32) : Both (d_X8_pressureIn p) (d_X9_pressureIn p) := by
  obtain ⟨a, ha, rfl⟩ := of_I p
  refine Both_q (fun S W l o T hA => ?_)
  have hi : SInv (S, W) := hA.1
  by_cases c : 0 ≤ a ∧ a ≤ 200
  · obtain ⟨N, rfl⟩ : ∃ q : Nat, a = q := ⟨a.toNat, by omega⟩
    refine ⟨I (runS S (rl S (-1) false) N).1, fun M h => ?_, fun M h => ?_⟩
    · unfold d_X8_pressureIn
      simp only [lit_, neg_I]
      refine gd_t (within_I ha (by omega) (by omega) M) c ?_
      rw [wq_bd]
      refine wp_mono (beg_plain hi h.1) (fun r M1 q => ?_)
      rw [wq_bd]
      refine wp_mono (cticks_spec (ok_plain hi) (by omega) q.1) (fun r M2 z => ?_)
      rw [wq_some]
      exact ⟨z.1.1.2.1, cqf_S (cqf_t q.2 (fun i hi => z.2 i (by omega))) h⟩
    · unfold d_X9_pressureIn
      simp only [lit_, neg_I]
      refine gd_t (rin_I ha (by omega) (by omega) M) c ?_
      rw [wq_bd]
      refine wp_mono (begins_spec hi h.1 rfl rfl (fun _ _ => rfl) (rl S (-1) false)) (fun r M1 q => ?_)
      rw [show (I 1 : Int32) = I ((0 + 1 : Nat) : Int) from rfl]
      refine rpr_L hi (by omega) N fuelN 0 M1 (by omega) (by unfold fuelN; omega) (rqf_v (rqf_f q.2) h.1) (scR_congr h.2.2.2.2 (fun j h1 h2 => q.2.2 j (by omega))) q.1 (fun M2 z1 z2 => ?_)
      rw [wq_some]
      exact ⟨z1.1, rqf_S (rqf_f (fcf_t q.2 z2)) (scR_congr h.2.2.2.2 (fun j h1 h2 => (fcf_t q.2 z2).2 j (by omega))) h⟩
  · refine ⟨I (-2), fun M h => ?_, fun M h => ?_⟩
    · unfold d_X8_pressureIn
      simp only [lit_, neg_I]
      exact gd_f (within_I ha (by omega) (by omega) M) c (wp_some ⟨rfl, h⟩)
    · unfold d_X9_pressureIn
      simp only [lit_, neg_I]
      exact gd_f (rin_I ha (by omega) (by omega) M) c (wp_some ⟨rfl, h⟩)
theorem b_lowestIn (p : Int32) : Both (d_X8_lowestIn p) (d_X9_lowestIn p) := by
  obtain ⟨a, ha, rfl⟩ := of_I p
  refine Both_q (fun S W l o T hA => ?_)
  have hi : SInv (S, W) := hA.1
  by_cases c : 1 ≤ a ∧ a ≤ 200
  · obtain ⟨N, rfl⟩ : ∃ q : Nat, a = (q + 1 : Nat) := ⟨a.toNat - 1, by omega⟩
    refine ⟨I (lowS S (rl S (-1) false) 99999 (N + 1)), fun M h => ?_, fun M h => ?_⟩
    · unfold d_X8_lowestIn
      simp only [lit_, neg_I]
      refine gd_t (within_I ha (by omega) (by omega) M) c ?_
      rw [wq_bd]
      refine wp_mono (beg_plain hi h.1) (fun r M1 q => ?_)
      rw [wq_bd]
      refine wp_mono (cticks_spec (ok_plain hi) (by omega) q.1) (fun r M2 z => ?_)
      rw [wq_some, lowS_e (ok_plain hi) (z := 99999) (w := 1000000) (by omega) (by omega) N]
      exact ⟨z.1.1.2.2.2.2.1, cqf_S (cqf_t q.2 (fun i hi => z.2 i (by omega))) h⟩
    · unfold d_X9_lowestIn
      simp only [lit_, neg_I]
      refine gd_t (rin_I ha (by omega) (by omega) M) c ?_
      rw [wq_bd]
      refine wp_mono (begins_spec hi h.1 rfl rfl (fun _ _ => rfl) (rl S (-1) false)) (fun r M1 q => ?_)
      rw [show (I 1 : Int32) = I ((0 + 1 : Nat) : Int) from rfl]
      refine rlw_L hi (by omega) (N + 1) fuelN 0 M1 (by omega) (by unfold fuelN; omega) (rqf_v (rqf_f q.2) h.1) (scR_congr h.2.2.2.2 (fun j h1 h2 => q.2.2 j (by omega))) q.1 (fun M2 z2 => ?_)
      rw [wq_some]
      exact ⟨rfl, rqf_S (rqf_f (fcf_t q.2 z2)) (scR_congr h.2.2.2.2 (fun j h1 h2 => (fcf_t q.2 z2).2 j (by omega))) h⟩
  · refine ⟨I (-2), fun M h => ?_, fun M h => ?_⟩
    · unfold d_X8_lowestIn
      simp only [lit_, neg_I]
      exact gd_f (within_I ha (by omega) (by omega) M) c (wp_some ⟨rfl, h⟩)
    · unfold d_X9_lowestIn
      simp only [lit_, neg_I]
      exact gd_f (rin_I ha (by omega) (by omega) M) c (wp_some ⟨rfl, h⟩)
/-! an open booking is asked within eighty ticks -/
theorem ask_le {S : Nat → Int} {t : Int} {F : Fc} {b x : Nat} (h : (F.2.2 b).2.2.1 ≤ 3000) : ((askS S t F x).2.2 b).2.2.1 ≤ 3000 := by
  unfold askS
  split
  · dsimp only
    by_cases e : b = x
    · subst e
      rw [setC_s]
      unfold askC
      split <;> (dsimp only; omega)
    · rw [setC_n e]; exact h
  · exact h
theorem fold_le {S : Nat → Int} {t : Int} {b : Nat} : ∀ (l : List Nat) (F : Fc), (F.2.2 b).2.2.1 ≤ 3000 → ((l.foldl (askS S t) F).2.2 b).2.2.1 ≤ 3000
  | [], F, h => h
  | x :: l, F, h => fold_le l _ (ask_le h)
theorem fold_asked {S : Nat → Int} {ps : List Nat} (hs : ScOk S ps) {t : Int} (ht : 1 ≤ t) {b : Nat} : ∀ (l : List Nat) (F : Fc), l.Nodup → (∀ y ∈ l, y ∈ ps) → b ∈ l → FI S ps t F → askP S t F.2.2 b → ((l.foldl (askS S t) F).2.2 b).2.2.1 ≤ 3000
  | [], F, _, _, hb, _, _ => by cases hb
  | x :: l, F, hn, hl, hb, hF, ha => by
    rw [List.foldl_cons]
    by_cases e : b = x
    · subst e
      refine fold_le l _ ?_
      have hbm := hl b List.mem_cons_self
      obtain ⟨-, -, -, hr, -, -⟩ := hs.2.2.2.2.2.2.1 b hbm
      unfold rcOk at hr
      have hp := hF.1
      unfold askS
      rw [if_pos ha]
      dsimp only
      rw [setC_s]
      unfold askC
      split <;> (dsimp only; omega)
    · have hbl : b ∈ l := by
        rcases List.mem_cons.mp hb with h | h
        · exact absurd h e
        · exact h
      refine fold_asked hs ht l _ (List.nodup_cons.mp hn).2 (fun y hy => hl y (List.mem_cons_of_mem _ hy)) hbl (ask_FI hs ht hF (hl x List.mem_cons_self)) ?_
      have ec : (askS S t F x).2.2 b = F.2.2 b := by
        unfold askS
        split
        · exact setC_n e
        · rfl
      exact ⟨by rw [ec]; exact ha.1, ha.2⟩
theorem fold_not {S : Nat → Int} {t : Int} {b : Nat} (ht : t < S (44 + 5 * b)) : ∀ (l : List Nat) (F : Fc), (l.foldl (askS S t) F).2.2 b = F.2.2 b
  | [], F => rfl
  | x :: l, F => by
    rw [List.foldl_cons, fold_not ht l]
    unfold askS
    split
    · rename_i hc
      by_cases e : b = x
      · subst e
        exact absurd hc.2.1 (by omega)
      · exact setC_n e
    · rfl
theorem run_not {S : Nat → Int} {ps : List Nat} {b : Nat} : ∀ n : Nat, S 0 + n < S (44 + 5 * b) → (runS S ps n).2.2 b = D0 S b
  | 0, _ => rfl
  | n + 1, h => by
    show (tickS S ps (S 0 + n + 1) (runS S ps n)).2.2 b = _
    unfold tickS
    rw [fold_not (by omega)]
    exact run_not n (by omega)
theorem run_le {S : Nat → Int} {ps : List Nat} {b n : Nat} (h : ((runS S ps n).2.2 b).2.2.1 ≤ 3000) : ∀ k : Nat, ((runS S ps (n + k)).2.2 b).2.2.1 ≤ 3000
  | 0 => h
  | k + 1 => fold_le ps _ (run_le h k)
theorem asked {S : Nat → Int} {W : List Wi} (hi : SInv (S, W)) {b : Nat} (hb : b ∈ rl S (-1) false) : ((runS S (rl S (-1) false) 80).2.2 b).2.2.1 ≤ 3000 := by
  have hs := ok_plain hi
  have h0 := (si_n hi).1
  rcases rl_mem.mp hb with hh | hh
  · obtain ⟨hb5, h45, -⟩ := hh
    obtain ⟨b1, b2, b3, b4, b5, b6⟩ := si_b hi hb5
    have hrc := rcN_l hi hb5
    have hrr := si_r hi hrc.1
    unfold rcOk at hrr
    have e43 : (S (43 + 5 * b)).toNat = rcN S b := rfl
    rw [e43] at b6
    obtain ⟨n, hn1, hn2, hn3, hn4⟩ : ∃ n : Nat, n < 80 ∧ S 0 + n + 1 = max (S 0 + 1) (S (44 + 5 * b)) ∧ (n = 0 ∨ S 0 + n < S (44 + 5 * b)) ∧ S 0 + n + 1 ≤ S (44 + 5 * b) + S (12 + 4 * rcN S b) - 1 := by
      refine ⟨(max (S 0 + 1) (S (44 + 5 * b)) - S 0 - 1).toNat, ?_, ?_, ?_, ?_⟩
      · omega
      · omega
      · omega
      · by_cases z : S (45 + 5 * b) = 0
        · have := b5 z; omega
        · have := b6 (by omega); omega
    have hD : (runS S (rl S (-1) false) n).2.2 b = D0 S b := by
      rcases hn3 with rfl | h
      · rfl
      · exact run_not n h
    have hF := run_FI hs n
    have hFu := FI_up hs hF
    have key : ((runS S (rl S (-1) false) (n + 1)).2.2 b).2.2.1 ≤ 3000 := by
      show ((tickS S (rl S (-1) false) (S 0 + n + 1) (runS S (rl S (-1) false) n)).2.2 b).2.2.1 ≤ 3000
      unfold tickS
      refine fold_asked hs (by omega) (rl S (-1) false) _ hs.2.2.2.2.2.2.2.1 (fun y hy => hy) hb hFu ⟨?_, by omega, hn4⟩
      dsimp only
      rw [hD]
      unfold D0
      rw [if_pos hb5]
      exact h45
    have := run_le key (80 - (n + 1))
    rw [show n + 1 + (80 - (n + 1)) = 80 by omega] at this
    exact this
  · exact absurd hh.1 (by decide)
/-! booking, count -/
theorem stateOf_I {M : Mem} {S : Nat → Int} {W : List Wi} (hc : cv 0 M (S, W)) (hi : SInv (S, W)) {b : Nat} (hb : (b : Int) < S 5) : d_X0_stateOf 0 (I b) M = some (I (S (45 + 5 * b)), M) := by
  have h5 := (si_n hi).2.2.2.2.2.1
  obtain ⟨q0, q1, q2, q3, q4⟩ := cv_b hc (b := b) (by omega)
  unfold d_X0_stateOf
  rw [has0_I hc hi (by omega), if_pos (by omega), bd_some, if_neg (by decide)]
  simp (disch := first | omega | (unfold sm; omega)) only [wq_bd, wq_some, wq_bnd, wq_ite, bnd_e, bd_some, lit_, neg_I, I_lt, I_le, I_eq, I_add, I_sub, I_mul, I_clamp, chk_I, wchk_I, I_succ, Int.toNat_natCast, Int.reduceToNat, b01, b01I, bd_ite, if_true, if_false, ite_self, reduceIte, Int.reduceLE, Int.reduceLT, Int.reduceAdd, Int.reduceSub, Int.reduceNeg, Nat.reduceEqDiff, Nat.reduceAdd, q3]
/-- the row of an open booking, or none -/
theorem row_plain {S : Nat → Int} {W : List Wi} (hi : SInv (S, W)) {M : Mem} (hE : crE 0 M S (rl S (-1) false)) {b : Nat} (hb : (b : Int) < S 5) : (b ∉ rl S (-1) false ∧ d_X1_rowOf 0 (I b) M = some (I (-1), M)) ∨ (b ∈ rl S (-1) false ∧ ∃ x : Nat, x < 61 ∧ d_X1_rowOf 0 (I b) M = some (I x, M) ∧ rowC 0 M S ((runS S (rl S (-1) false) 80).2.2 b) x b) := by
  have hs := ok_plain hi
  have h5 := (si_n hi).2.2.2.2.2.1
  have hlen := hs.2.2.2.2.2.2.2.2
  have hrng : ∀ y ∈ rl S (-1) false, ((y : Int) < S 5 ∨ y = 60) := fun y hy => by
    rcases rl_mem.mp hy with hh | hh
    · exact Or.inl hh.1
    · exact Or.inr hh.2
  have hnm : ∀ y : Nat, (y : Int) < S 5 → nmS S y = y := fun y hy => by unfold nmS; rw [if_neg (by omega)]
  by_cases c : b ∈ rl S (-1) false
  · refine Or.inr ⟨c, ?_⟩
    obtain ⟨x, x1, x2, x3⟩ := rowOf_some hE hlen h5 hrng c
    rw [hnm b hb] at x3
    exact ⟨x, x2, x3, hE.2 x b x1⟩
  · refine Or.inl ⟨c, rowOf_none hE hlen h5 (fun y hy => by have := hrng y hy; omega) (by omega) (fun y hy e => ?_)⟩
    rcases rl_mem.mp hy with hh | hh
    · rw [hnm y hh.1] at e
      have : y = b := by omega
      exact c (this ▸ hy)
    · exact absurd hh.1 (by decide)
def enS (S : Nat → Int) (b : Nat) : Int := ((runS S (rl S (-1) false) 80).2.2 b).1
def lfS (S : Nat → Int) (b : Nat) : Int := ((runS S (rl S (-1) false) 80).2.2 b).2.2.1
theorem b_booking (p w : Int32) : Both (d_X8_booking p w) (d_X9_booking p w) := by
  obtain ⟨a, ha, rfl⟩ := of_I p
  obtain ⟨v, hv, rfl⟩ := of_I w
  refine Both_q (fun S W l o T hA => ?_)
  have hi : SInv (S, W) := hA.1
  obtain ⟨h0, h1, h2, h3, h4, h5, hl⟩ := si_n hi
  by_cases c : 0 ≤ a ∧ a < S 5
  · obtain ⟨b, rfl⟩ : ∃ q : Nat, a = q := ⟨a.toNat, by omega⟩
    have hs := ok_plain hi
    obtain ⟨bk1, bk2, bk3, bk4, -, -⟩ := si_b hi c.2
    generalize hX : (if v = 0 then S (42 + 5 * b) else if v = 1 then S (43 + 5 * b) else if v = 2 then S (44 + 5 * b) else if v = 3 then S (45 + 5 * b) else if v = 4 then S (46 + 5 * b) else if v = 5 then enS S b else if v = 6 then spC (spS S (-1) false b) else if v = 7 then (if S (45 + 5 * b) ≤ 1 then 10000 + lfS S b else -5) else -2) = X
    refine ⟨I X, fun M h => ?_, fun M h => ?_⟩
    · obtain ⟨q0, q1, q2, q3, q4⟩ := cv_b h.1 (b := b) (by omega)
      have hst : wp (d_X8_stateInTheEnd (I b) M) (fun r M1 => r = I (enS S b) ∧ CSt M1 ((S, W), l, o, T)) := by
        unfold d_X8_stateInTheEnd
        rw [wq_bd]
        refine wp_mono (fte_spec hi h.1) (fun r M1 q => ?_)
        rcases row_plain hi q.1 c.2 with ⟨r1, r2⟩ | ⟨r1, x, r2, r3, r4⟩
        · rw [r2, bd_some, if_pos (show I (-1) = (-1 : Int32) from rfl), stateOf_I (cqf_v q.2 h.1) hi c.2, bd_some, wq_some]
          refine ⟨?_, cqf_S q.2 h⟩
          unfold enS
          rw [run_out r1 80]
          unfold D0
          rw [if_pos c.2]
        · have r5 := r4.2.1
          rw [r3, bd_some]
          simp (disch := first | omega | (unfold sm; omega)) only [wq_bd, wq_some, wq_bnd, wq_ite, bnd_e, bd_some, lit_, neg_I, I_lt, I_le, I_eq, I_add, I_sub, I_mul, I_clamp, chk_I, wchk_I, I_succ, Int.toNat_natCast, Int.reduceToNat, b01, b01I, bd_ite, if_true, if_false, ite_self, reduceIte, Int.reduceLE, Int.reduceLT, Int.reduceAdd, Int.reduceSub, Int.reduceNeg, Nat.reduceEqDiff, Nat.reduceAdd, r5]
          rw [if_neg (by omega)]
          exact ⟨rfl, cqf_S q.2 h⟩
      have htk : wp (d_X8_tickOfSpoiling (I b) M) (fun r M1 => r = I (spC (spS S (-1) false b)) ∧ CSt M1 ((S, W), l, o, T)) := by
        unfold d_X8_tickOfSpoiling
        rw [wq_bd]
        refine wp_mono (fte_spec hi h.1) (fun r M1 q => ?_)
        rcases row_plain hi q.1 c.2 with ⟨r1, r2⟩ | ⟨r1, x, r2, r3, r4⟩
        · rw [r2, bd_some, if_pos (show I (-1) = (-1 : Int32) from rfl), wq_some, spS_0 r1]
          exact ⟨rfl, cqf_S q.2 h⟩
        · have r5 := r4.2.2.2.1
          rw [r3, bd_some]
          simp (disch := first | omega | (unfold sm; omega)) only [wq_bd, wq_some, wq_bnd, wq_ite, bnd_e, bd_some, lit_, neg_I, I_lt, I_le, I_eq, I_add, I_sub, I_mul, I_clamp, chk_I, wchk_I, I_succ, Int.toNat_natCast, Int.reduceToNat, b01, b01I, bd_ite, if_true, if_false, ite_self, reduceIte, Int.reduceLE, Int.reduceLT, Int.reduceAdd, Int.reduceSub, Int.reduceNeg, Nat.reduceEqDiff, Nat.reduceAdd, r5]
          rw [if_neg (by omega)]
          exact ⟨rfl, cqf_S q.2 h⟩
      have hls : wp (d_X8_leastSpare (I b) M) (fun r M1 => r = I (if S (45 + 5 * b) ≤ 1 then 10000 + lfS S b else -5) ∧ CSt M1 ((S, W), l, o, T)) := by
        unfold d_X8_leastSpare
        rw [wq_bd]
        refine wp_mono (fte_spec hi h.1) (fun r M1 q => ?_)
        rcases row_plain hi q.1 c.2 with ⟨r1, r2⟩ | ⟨r1, x, r2, r3, r4⟩
        · rw [r2, bd_some, if_pos (show I (-1) = (-1 : Int32) from rfl), wq_some]
          refine ⟨?_, cqf_S q.2 h⟩
          rw [if_neg (fun hh => r1 (rl_mem.mpr (Or.inl ⟨c.2, hh, by omega⟩)))]
          rfl
        · have r5 := r4.2.2.2.2
          have has := asked hi r1
          have e1 : S (45 + 5 * b) ≤ 1 := by
            rcases rl_mem.mp r1 with hh | hh
            · exact hh.2.1
            · exact absurd hh.1 (by decide)
          have e2 : lsC ((runS S (rl S (-1) false) 80).2.2 b).2.2.1 = lfS S b := by
            unfold lsC lfS
            rw [if_neg (by omega)]
          rw [e2] at r5
          rw [r3, bd_some]
          simp (disch := first | omega | (unfold sm; omega)) only [wq_bd, wq_some, wq_bnd, wq_ite, bnd_e, bd_some, lit_, neg_I, I_lt, I_le, I_eq, I_add, I_sub, I_mul, I_clamp, chk_I, wchk_I, I_succ, Int.toNat_natCast, Int.reduceToNat, b01, b01I, bd_ite, if_true, if_false, ite_self, reduceIte, Int.reduceLE, Int.reduceLT, Int.reduceAdd, Int.reduceSub, Int.reduceNeg, Nat.reduceEqDiff, Nat.reduceAdd, r5]
          rw [if_neg (by omega), if_pos e1]
          exact ⟨rfl, cqf_S q.2 h⟩
      unfold d_X8_booking
      simp only [lit_, neg_I]
      refine gd_t (has0_I h.1 hi ha) c ?_
      simp (disch := first | omega | (unfold sm; omega)) only [wq_ite, I_eq, wchk_I, I_clamp, Int.toNat_natCast, q0, q1, q2, q3, q4]
      by_cases v0 : v = 0
      · rw [if_pos v0, wq_some]; exact ⟨by rw [← hX]; subst v0; rfl, h⟩
      rw [if_neg v0]
      by_cases v1 : v = 1
      · rw [if_pos v1, wq_some]; exact ⟨by rw [← hX]; subst v1; rfl, h⟩
      rw [if_neg v1]
      by_cases v2 : v = 2
      · rw [if_pos v2, wq_some]; exact ⟨by rw [← hX]; subst v2; rfl, h⟩
      rw [if_neg v2]
      by_cases v3 : v = 3
      · rw [if_pos v3, wq_some]; exact ⟨by rw [← hX]; subst v3; rfl, h⟩
      rw [if_neg v3]
      by_cases v4 : v = 4
      · rw [if_pos v4, wq_some]; exact ⟨by rw [← hX]; subst v4; rfl, h⟩
      rw [if_neg v4]
      by_cases v5 : v = 5
      · rw [if_pos v5, wq_bd]
        exact wp_mono hst (fun r M1 q => wp_some ⟨by rw [q.1, ← hX]; subst v5; rfl, q.2⟩)
      rw [if_neg v5]
      by_cases v6 : v = 6
      · rw [if_pos v6, wq_bd]
        exact wp_mono htk (fun r M1 q => wp_some ⟨by rw [q.1, ← hX]; subst v6; rfl, q.2⟩)
      rw [if_neg v6]
      by_cases v7 : v = 7
      · rw [if_pos v7, wq_bd]
        exact wp_mono hls (fun r M1 q => wp_some ⟨by rw [q.1, ← hX]; subst v7; rfl, q.2⟩)
      rw [if_neg v7]
      rw [wq_some]
      exact ⟨by rw [← hX, if_neg v0, if_neg v1, if_neg v2, if_neg v3, if_neg v4, if_neg v5, if_neg v6, if_neg v7], h⟩
    · obtain ⟨q0, q1, q2, q3, q4⟩ := rof0 h.1 (b := b) (by omega)
      unfold d_X9_booking
      simp only [lit_, neg_I]
      refine gn_t (noBk_I h.1 hi ha) c ?_
      by_cases cw : 0 ≤ v ∧ v ≤ 4
      · refine gd_t (rin_I hv (by omega) (by omega) M) cw ?_
        rcases (show v = 0 ∨ v = 1 ∨ v = 2 ∨ v = 3 ∨ v = 4 by omega) with rfl | rfl | rfl | rfl | rfl
        · rw [q0, bd_some, wq_some]; exact ⟨by rw [← hX]; rfl, h⟩
        · rw [q1, bd_some, wq_some]; exact ⟨by rw [← hX]; rfl, h⟩
        · rw [q2, bd_some, wq_some]; exact ⟨by rw [← hX]; rfl, h⟩
        · rw [q3, bd_some, wq_some]; exact ⟨by rw [← hX]; rfl, h⟩
        · rw [q4, bd_some, wq_some]; exact ⟨by rw [← hX]; rfl, h⟩
      · refine gd_f (rin_I hv (by omega) (by omega) M) cw ?_
        rw [if_neg (show ¬ v = 0 by omega), if_neg (show ¬ v = 1 by omega), if_neg (show ¬ v = 2 by omega), if_neg (show ¬ v = 3 by omega), if_neg (show ¬ v = 4 by omega)] at hX
        rw [wq_bd]
        refine wp_mono (fcst_spec hi hs h.1 (RSc_out (by omega) h.2.2.2.2.2.1 h.2.2.2.2.2.2 h.2.2.2.2.1)) (fun r M1 q => ?_)
        obtain ⟨z1, z2⟩ := q
        have hR : RSt M1 ((S, W), l, o, T) := rqf_S (rqf_f z2) (scR_congr h.2.2.2.2 (fun j h1 h2 => z2.2 j (by omega))) h
        obtain ⟨u1, u2, u3⟩ := z1.2 b (by omega)
        have hsp := spS_b hs b
        have u2' : M1 149 b = I (spS S (-1) false b) := u2
        obtain ⟨-, -, -, y3, -⟩ := rof0 hR.1 (b := b) (by omega)
        simp (disch := first | omega | (unfold sm; omega)) only [wq_ite, I_eq, wchk_I, I_clamp, Int.toNat_natCast, u1, u2', u3, I_le, d_X9_isOpen, y3, bd_some, I_lt, lit_, wq_bd, wq_some, I_add, if_true, if_false]
        by_cases v5 : v = 5
        · rw [if_pos v5]; exact ⟨by rw [← hX, if_pos v5]; rfl, hR⟩
        rw [if_neg v5]
        by_cases v6 : v = 6
        · rw [if_neg v5, if_pos v6] at hX
          rw [if_pos v6, ← hX]
          unfold spC
          by_cases d : spS S (-1) false b ≤ 0
          · rw [if_pos d, if_pos (by omega)]; exact ⟨rfl, hR⟩
          · rw [if_neg d, if_neg (by omega)]; exact ⟨rfl, hR⟩
        rw [if_neg v6]
        by_cases v7 : v = 7
        · rw [if_neg v5, if_neg v6, if_pos v7] at hX
          rw [if_pos v7, ← hX]
          by_cases d : S (45 + 5 * b) ≤ 1
          · rw [if_neg (show ¬ 1 < S (45 + 5 * b) by omega), if_neg (by decide), if_pos d]
            exact ⟨rfl, hR⟩
          · rw [if_pos (show 1 < S (45 + 5 * b) by omega), if_neg d]
            exact ⟨rfl, hR⟩
        rw [if_neg v5, if_neg v6, if_neg v7] at hX
        rw [if_neg v7, ← hX]
        exact ⟨rfl, hR⟩
  · refine ⟨I (-1), fun M h => ?_, fun M h => ?_⟩
    · unfold d_X8_booking
      simp only [lit_, neg_I]
      exact gd_f (has0_I h.1 hi ha) c (wp_some ⟨rfl, h⟩)
    · unfold d_X9_booking
      simp only [lit_, neg_I]
      exact gn_f (noBk_I h.1 hi ha) c (wp_some ⟨rfl, h⟩)
theorem wif_t {v k : Int} {a b : Ans} {Q : Int32 → Mem → Prop} (e : v = k) (h : wp a Q) : wp (if I v = I k then a else b) Q := by
  rw [if_pos (by rw [e])]; exact h
theorem wif_f {v k : Int} {a b : Ans} {Q : Int32 → Mem → Prop} (hv : -2147483648 ≤ v ∧ v < 2147483648) (hk : -2147483648 ≤ k ∧ k < 2147483648) (e : ¬ v = k) (h : wp b Q) : wp (if I v = I k then a else b) Q := by
  rw [if_neg (by rw [I_eq (by unfold sm; omega) (by unfold sm; omega)]; exact e)]; exact h
theorem b_count (p : Int32) : Both (d_X8_count p) (d_X9_count p) := by
  obtain ⟨v, hv, rfl⟩ := of_I p
  refine Both_q (fun S W l o T hA => ?_)
  have hi : SInv (S, W) := hA.1
  obtain ⟨h0, h1, h2, h3, h4, h5, hl⟩ := si_n hi
  by_cases c : 6 ≤ v ∧ v ≤ 10
  · refine ⟨I (cntS S (fun b => decide (S (45 + 5 * b) = v - 6))), fun M h => ?_, fun M h => ?_⟩
    · unfold d_X8_count
      simp only [lit_, neg_I]
      refine gd_t (within_I hv (by omega) (by omega) M) c ?_
      rw [I_sub, cin_I h.1 hi (by omega), bd_some, wq_some]
      exact ⟨rfl, h⟩
    · have hB : wp (d_X9_count_B130 (I v) M) (fun r M1 => r = I (cntS S (fun b => decide (S (45 + 5 * b) = v - 6))) ∧ RSt M1 ((S, W), l, o, T)) := by
        unfold d_X9_count_B130
        simp only [lit_, neg_I]
        rw [I_sub, rcnt_I h.1 hi (by omega) (by omega) (by omega) (by omega), bd_some, wq_some]
        refine ⟨?_, h⟩
        congr 1
        refine cnt_congr (fun b hb => decide_eq_decide.mpr ?_)
        omega
      unfold d_X9_count
      simp only [lit_, neg_I]
      refine wif_f hv (by omega) (show ¬ v = 0 by omega) ?_
      refine wif_f hv (by omega) (show ¬ v = 1 by omega) ?_
      refine wif_f hv (by omega) (show ¬ v = 2 by omega) ?_
      refine wif_f hv (by omega) (show ¬ v = 3 by omega) ?_
      refine wif_f hv (by omega) (show ¬ v = 4 by omega) ?_
      refine wif_f hv (by omega) (show ¬ v = 5 by omega) ?_
      by_cases v6 : v = 6
      · exact wif_t v6 hB
      refine wif_f hv (by omega) v6 ?_
      by_cases v7 : v = 7
      · exact wif_t v7 hB
      refine wif_f hv (by omega) v7 ?_
      by_cases v8 : v = 8
      · exact wif_t v8 hB
      refine wif_f hv (by omega) v8 ?_
      by_cases v9 : v = 9
      · exact wif_t v9 hB
      refine wif_f hv (by omega) v9 ?_
      exact wif_t (show v = 10 by omega) hB
  · generalize hX : (if v = 0 then S 0 else if v = 1 then S 1 else if v = 2 then S 2 else if v = 3 then S 3 else if v = 4 then S 4 else if v = 5 then S 5 else if v = 11 then doomS S else if v = 12 then W.length else if v = 13 then S 7 else if v = 14 then S 8 else if v = 15 then S 9 else if v = 16 then l.length else if v = 17 then T.length else -2) = X
    refine ⟨I X, fun M h => ?_, fun M h => ?_⟩
    · obtain ⟨n0, n1, n2, n3, n7, n8, n9, n4, n5, n6⟩ := cv_n h.1
      have nl : M 134 1 = I l.length := h.2.1.1
      have nt : M 136 1 = I T.length := h.2.2.2.1
      unfold d_X8_count
      simp only [lit_, neg_I]
      refine gd_f (within_I hv (by omega) (by omega) M) c ?_
      by_cases v0 : v = 0
      · exact wif_t v0 (wp_some ⟨by rw [← hX]; subst v0; exact n0, h⟩)
      refine wif_f hv (by omega) v0 ?_
      by_cases v1 : v = 1
      · exact wif_t v1 (wp_some ⟨by rw [← hX]; subst v1; exact n1, h⟩)
      refine wif_f hv (by omega) v1 ?_
      by_cases v2 : v = 2
      · exact wif_t v2 (wp_some ⟨by rw [← hX]; subst v2; exact n2, h⟩)
      refine wif_f hv (by omega) v2 ?_
      by_cases v3 : v = 3
      · exact wif_t v3 (wp_some ⟨by rw [← hX]; subst v3; exact n3, h⟩)
      refine wif_f hv (by omega) v3 ?_
      by_cases v4 : v = 4
      · exact wif_t v4 (wp_some ⟨by rw [← hX]; subst v4; exact n4, h⟩)
      refine wif_f hv (by omega) v4 ?_
      by_cases v5 : v = 5
      · exact wif_t v5 (wp_some ⟨by rw [← hX]; subst v5; exact n5, h⟩)
      refine wif_f hv (by omega) v5 ?_
      refine wif_f hv (by omega) (show ¬ v = 6 by omega) ?_
      refine wif_f hv (by omega) (show ¬ v = 7 by omega) ?_
      refine wif_f hv (by omega) (show ¬ v = 8 by omega) ?_
      refine wif_f hv (by omega) (show ¬ v = 9 by omega) ?_
      refine wif_f hv (by omega) (show ¬ v = 10 by omega) ?_
      by_cases v11 : v = 11
      · refine wif_t v11 ?_
        rw [wq_bd]
        exact wp_mono (cdoom_spec hi h.1) (fun r M1 q => wp_some ⟨by rw [q.1, ← hX]; subst v11; rfl, cqf_S q.2 h⟩)
      refine wif_f hv (by omega) v11 ?_
      by_cases v12 : v = 12
      · exact wif_t v12 (wp_some ⟨by rw [← hX]; subst v12; exact n6, h⟩)
      refine wif_f hv (by omega) v12 ?_
      by_cases v13 : v = 13
      · exact wif_t v13 (wp_some ⟨by rw [← hX]; subst v13; exact n7, h⟩)
      refine wif_f hv (by omega) v13 ?_
      by_cases v14 : v = 14
      · exact wif_t v14 (wp_some ⟨by rw [← hX]; subst v14; exact n8, h⟩)
      refine wif_f hv (by omega) v14 ?_
      by_cases v15 : v = 15
      · exact wif_t v15 (wp_some ⟨by rw [← hX]; subst v15; exact n9, h⟩)
      refine wif_f hv (by omega) v15 ?_
      by_cases v16 : v = 16
      · exact wif_t v16 (wp_some ⟨by rw [← hX]; subst v16; exact nl, h⟩)
      refine wif_f hv (by omega) v16 ?_
      by_cases v17 : v = 17
      · exact wif_t v17 (wp_some ⟨by rw [← hX]; subst v17; exact nt, h⟩)
      refine wif_f hv (by omega) v17 ?_
      exact wp_some ⟨by rw [← hX, if_neg v0, if_neg v1, if_neg v2, if_neg v3, if_neg v4, if_neg v5, if_neg v11, if_neg v12, if_neg v13, if_neg v14, if_neg v15, if_neg v16, if_neg v17], h⟩
    · obtain ⟨n0, n1, n2, n3, n4, n5, n6, n7, n8, n9⟩ := rv_n h.1
      have nl : M 143 2 = I l.length := h.2.1.1
      have nt : M 143 18 = I T.length := h.2.2.2.1.1
      have ck : ∀ (k : Int) (Y : Ans), 0 ≤ k ∧ k < 366 → chk (I k) 366 Y = Y := fun k Y hk => chk_I (by omega) hk.1 (by omega)
      unfold d_X9_count
      simp only [lit_, neg_I]
      by_cases v0 : v = 0
      · refine wif_t v0 ?_
        rw [ck _ _ (by decide), wq_some, I_clamp (by unfold sm; omega)]
        exact ⟨by rw [← hX]; subst v0; exact n0, h⟩
      refine wif_f hv (by omega) v0 ?_
      by_cases v1 : v = 1
      · refine wif_t v1 ?_
        rw [ck _ _ (by decide), wq_some, I_clamp (by unfold sm; omega)]
        exact ⟨by rw [← hX]; subst v1; exact n1, h⟩
      refine wif_f hv (by omega) v1 ?_
      by_cases v2 : v = 2
      · refine wif_t v2 ?_
        rw [ck _ _ (by decide), wq_some, I_clamp (by unfold sm; omega)]
        exact ⟨by rw [← hX]; subst v2; exact n2, h⟩
      refine wif_f hv (by omega) v2 ?_
      by_cases v3 : v = 3
      · refine wif_t v3 ?_
        rw [ck _ _ (by decide), wq_some, I_clamp (by unfold sm; omega)]
        exact ⟨by rw [← hX]; subst v3; exact n3, h⟩
      refine wif_f hv (by omega) v3 ?_
      by_cases v4 : v = 4
      · refine wif_t v4 ?_
        rw [ck _ _ (by decide), wq_some, I_clamp (by unfold sm; omega)]
        exact ⟨by rw [← hX]; subst v4; exact n4, h⟩
      refine wif_f hv (by omega) v4 ?_
      by_cases v5 : v = 5
      · refine wif_t v5 ?_
        rw [ck _ _ (by decide), wq_some, I_clamp (by unfold sm; omega)]
        exact ⟨by rw [← hX]; subst v5; exact n5, h⟩
      refine wif_f hv (by omega) v5 ?_
      refine wif_f hv (by omega) (show ¬ v = 6 by omega) ?_
      refine wif_f hv (by omega) (show ¬ v = 7 by omega) ?_
      refine wif_f hv (by omega) (show ¬ v = 8 by omega) ?_
      refine wif_f hv (by omega) (show ¬ v = 9 by omega) ?_
      refine wif_f hv (by omega) (show ¬ v = 10 by omega) ?_
      by_cases v11 : v = 11
      · refine wif_t v11 ?_
        rw [wq_bd]
        exact wp_mono (rdoom_spec hi h.1 h.2.2.2.2) (fun r M1 q => wp_some ⟨by rw [q.1, ← hX]; subst v11; rfl, rqf_S q.2.2 q.2.1 h⟩)
      refine wif_f hv (by omega) v11 ?_
      by_cases v12 : v = 12
      · refine wif_t v12 ?_
        rw [ck _ _ (by decide), wq_some, I_clamp (by unfold sm; omega)]
        exact ⟨by rw [← hX]; subst v12; exact n6, h⟩
      refine wif_f hv (by omega) v12 ?_
      by_cases v13 : v = 13
      · refine wif_t v13 ?_
        rw [ck _ _ (by decide), wq_some, I_clamp (by unfold sm; omega)]
        exact ⟨by rw [← hX]; subst v13; exact n7, h⟩
      refine wif_f hv (by omega) v13 ?_
      by_cases v14 : v = 14
      · refine wif_t v14 ?_
        rw [ck _ _ (by decide), wq_some, I_clamp (by unfold sm; omega)]
        exact ⟨by rw [← hX]; subst v14; exact n8, h⟩
      refine wif_f hv (by omega) v14 ?_
      by_cases v15 : v = 15
      · refine wif_t v15 ?_
        rw [ck _ _ (by decide), wq_some, I_clamp (by unfold sm; omega)]
        exact ⟨by rw [← hX]; subst v15; exact n9, h⟩
      refine wif_f hv (by omega) v15 ?_
      by_cases v16 : v = 16
      · exact wif_t v16 (wp_some ⟨by rw [← hX]; subst v16; exact nl, h⟩)
      refine wif_f hv (by omega) v16 ?_
      by_cases v17 : v = 17
      · exact wif_t v17 (wp_some ⟨by rw [← hX]; subst v17; exact nt, h⟩)
      refine wif_f hv (by omega) v17 ?_
      exact wp_some ⟨by rw [← hX, if_neg v0, if_neg v1, if_neg v2, if_neg v3, if_neg v4, if_neg v5, if_neg v11, if_neg v12, if_neg v13, if_neg v14, if_neg v15, if_neg v16, if_neg v17], h⟩
/-! a booking more, a recipe more -/
def addS (S : Nat → Int) (ro rc st : Int) : Nat → Int :=
  setS (setS (setS (setS (setS (setS S (42 + 5 * (S 5).toNat) ro) (43 + 5 * (S 5).toNat) rc) (44 + 5 * (S 5).toNat) st) (45 + 5 * (S 5).toNat) 0) (46 + 5 * (S 5).toNat) 0) 5 (S 5 + 1)
theorem addS_o {S : Nat → Int} {ro rc st : Int} {j : Nat} (h5 : j ≠ 5) (hj : j < 42 + 5 * (S 5).toNat ∨ 47 + 5 * (S 5).toNat ≤ j) : addS S ro rc st j = S j := by
  unfold addS
  rw [setS_n h5, setS_n (by omega), setS_n (by omega), setS_n (by omega), setS_n (by omega), setS_n (by omega)]
theorem addS_5 {S : Nat → Int} {ro rc st : Int} : addS S ro rc st 5 = S 5 + 1 := setS_s
theorem addS_b {S : Nat → Int} {ro rc st : Int} : addS S ro rc st (42 + 5 * (S 5).toNat) = ro ∧ addS S ro rc st (43 + 5 * (S 5).toNat) = rc ∧ addS S ro rc st (44 + 5 * (S 5).toNat) = st ∧ addS S ro rc st (45 + 5 * (S 5).toNat) = 0 ∧ addS S ro rc st (46 + 5 * (S 5).toNat) = 0 := by
  unfold addS
  refine ⟨?_, ?_, ?_, ?_, ?_⟩
  · rw [setS_n (by omega), setS_n (by omega), setS_n (by omega), setS_n (by omega), setS_n (by omega), setS_s]
  · rw [setS_n (by omega), setS_n (by omega), setS_n (by omega), setS_n (by omega), setS_s]
  · rw [setS_n (by omega), setS_n (by omega), setS_n (by omega), setS_s]
  · rw [setS_n (by omega), setS_n (by omega), setS_s]
  · rw [setS_n (by omega), setS_s]
theorem SI_add {S : Nat → Int} {W : List Wi} (h : SInv (S, W)) (h60 : S 5 < 60) {ro rc st : Int} (h1 : 0 ≤ ro ∧ ro ≤ 5) (h2 : 0 ≤ rc ∧ rc < S 4) (h3 : S 0 < st ∧ st ≤ S 0 + 60) : SInv (addS S ro rc st, W) := by
  obtain ⟨g0, g1, g2, g3, g4, g5, g6, g7, g8, g9⟩ := h
  dsimp only at g0 g1 g2 g3 g4 g5 g6 g7 g8 g9
  have e : ∀ j, j ≠ 5 → j < 42 → addS S ro rc st j = S j := fun j h hj => addS_o h (by omega)
  refine ⟨?_, ?_, ?_, ?_, ?_, ?_, g6, fun r hr => ?_, fun b hb => ?_, fun w hw => ?_⟩
  · dsimp only; rw [e 0 (by decide) (by decide)]; exact g0
  · dsimp only; rw [e 1 (by decide) (by decide), e 2 (by decide) (by decide)]; exact g1
  · dsimp only; rw [e 2 (by decide) (by decide)]; exact g2
  · dsimp only; rw [e 3 (by decide) (by decide)]; exact g3
  · dsimp only; rw [e 4 (by decide) (by decide)]; exact g4
  · dsimp only; rw [addS_5]; omega
  · dsimp only at hr ⊢
    rw [e 4 (by decide) (by decide)] at hr
    have := g7 r hr
    unfold rcOk at this ⊢
    rw [e _ (by omega) (by omega), e _ (by omega) (by omega), e _ (by omega) (by omega), e _ (by omega) (by omega)]
    exact this
  · dsimp only at hb ⊢
    rw [addS_5] at hb
    by_cases c : (b : Int) < S 5
    · exact bk_c (g8 b c) g4.2 (e 0 (by decide) (by decide)) (e 4 (by decide) (by decide)) (fun i h1 h2 => addS_o (by omega) (by omega)) (fun i h1 h2 => e i (by omega) h2)
    · have eb : b = (S 5).toNat := by omega
      subst eb
      obtain ⟨a0, a1, a2, a3, a4⟩ := addS_b (S := S) (ro := ro) (rc := rc) (st := st)
      have g40 := g4.1
      unfold bkOk
      rw [a0, a1, a2, a3, e 0 (by decide) (by decide), e 4 (by decide) (by decide)]
      refine ⟨h1, h2, by omega, by omega, fun _ => h3.1, fun hh => absurd hh (by decide)⟩
  · have := g9 w hw
    unfold wiOk at this ⊢
    dsimp only
    rw [e 0 (by decide) (by decide), e 4 (by decide) (by decide)]
    exact this
theorem app_spec {M : Mem} {S : Nat → Int} {W : List Wi} (hc : cv 0 M (S, W)) (hi : SInv (S, W)) (h60 : S 5 < 60) (a r st : Int) : wp (d_X0_append 0 (I a) (I r) (I st) M) (fun x M1 => x = I (S 5) ∧ cv 0 M1 (addS S a r st, W) ∧ ∀ i, 16 ≤ i → M1 i = M i) := by
  have h5 := (si_n hi).2.2.2.2.2.1
  have e5 := (cv_n hc).2.2.2.2.2.2.2.2.1
  have hn : (S 5).toNat < 60 := by omega
  have c1 := (cv_setb hc hn a).1
  have c2 := (cv_setb c1 hn r).2.1
  have c3 := (cv_setb c2 hn st).2.2.1
  have c4 := (cv_setb c3 hn 0).2.2.2.1
  have c5 := (cv_setb c4 hn 0).2.2.2.2
  have c6 := (cv_set1 c5 (S 5 + 1)).2.2.2.2.2.2.2.2
  unfold d_X0_append
  simp only [mup_n (show sI 0 6 ≠ sI 0 7 by decide), mup_n (show sI 0 6 ≠ sI 0 8 by decide), mup_n (show sI 0 6 ≠ sI 0 9 by decide), mup_n (show sI 0 6 ≠ sI 0 10 by decide), mup_n (show sI 0 6 ≠ sI 0 11 by decide), e5, bnd_e]
  simp (disch := first | omega | (unfold sm; omega)) only [wq_bd, wq_some, wq_bnd, wq_ite, bnd_e, bd_some, lit_, neg_I, I_lt, I_le, I_eq, I_add, I_sub, I_mul, I_clamp, chk_I, wchk_I, I_succ, Int.toNat_natCast, Int.reduceToNat, b01, b01I, bd_ite, if_true, if_false, ite_self, reduceIte, Int.reduceLE, Int.reduceLT, Int.reduceAdd, Int.reduceSub, Int.reduceNeg, Nat.reduceEqDiff, Nat.reduceAdd]
  rw [if_pos h60]
  refine ⟨?_, c6, fun i hi => ?_⟩
  · rw [mup_s, upd_s]
    simp (disch := first | omega | (unfold sm; omega)) only [wq_bd, wq_some, wq_bnd, wq_ite, bnd_e, bd_some, lit_, neg_I, I_lt, I_le, I_eq, I_add, I_sub, I_mul, I_clamp, chk_I, wchk_I, I_succ, Int.toNat_natCast, Int.reduceToNat, b01, b01I, bd_ite, if_true, if_false, ite_self, reduceIte, Int.reduceLE, Int.reduceLT, Int.reduceAdd, Int.reduceSub, Int.reduceNeg, Nat.reduceEqDiff, Nat.reduceAdd]
    congr 1
    omega
  · rw [mup_n (by unfold sI; omega), mup_n (by unfold sI; omega), mup_n (by unfold sI; omega), mup_n (by unfold sI; omega), mup_n (by unfold sI; omega), mup_n (by unfold sI; omega)]
theorem puts_e {M : Mem} {b : Nat} (hb : b < 60) (v : Int32) : d_X9_puts (I b) (I 0) v M = some (0, mup M 144 (42 + 5 * b) v) ∧ d_X9_puts (I b) (I 1) v M = some (0, mup M 144 (43 + 5 * b) v) ∧ d_X9_puts (I b) (I 2) v M = some (0, mup M 144 (44 + 5 * b) v) ∧ d_X9_puts (I b) (I 3) v M = some (0, mup M 144 (45 + 5 * b) v) ∧ d_X9_puts (I b) (I 4) v M = some (0, mup M 144 (46 + 5 * b) v) := by
  unfold d_X9_puts
  simp (disch := first | omega | (unfold sm; omega)) only [wq_bd, wq_some, wq_bnd, wq_ite, bnd_e, bd_some, lit_, neg_I, I_lt, I_le, I_eq, I_add, I_sub, I_mul, I_clamp, chk_I, wchk_I, I_succ, Int.toNat_natCast, Int.reduceToNat, b01, b01I, bd_ite, if_true, if_false, ite_self, reduceIte, Int.reduceLE, Int.reduceLT, Int.reduceAdd, Int.reduceSub, Int.reduceNeg, Nat.reduceEqDiff, Nat.reduceAdd]
  refine ⟨?_, ?_, ?_, ?_, ?_⟩ <;> (congr 3 <;> omega)
theorem adds_spec {M : Mem} {S : Nat → Int} {W : List Wi} (hr : rv (M 144) (S, W)) (hi : SInv (S, W)) (h60 : S 5 < 60) (a r st : Int) : wp (d_X9_adds (I a) (I r) (I st) M) (fun x M1 => x = I (S 5) ∧ rv (M1 144) (addS S a r st, W) ∧ ∀ i, i ≠ 144 → M1 i = M i) := by
  have h5 := (si_n hi).2.2.2.2.2.1
  have e5 := (rv_n hr).2.2.2.2.2.1
  have hn : (S 5).toNat < 60 := by omega
  have eb : S 5 = ((S 5).toNat : Int) := by omega
  have c1 := rv_set hr (i := 42 + 5 * (S 5).toNat) (by omega) (by omega) a
  have c2 := rv_set c1 (i := 43 + 5 * (S 5).toNat) (by omega) (by omega) r
  have c3 := rv_set c2 (i := 44 + 5 * (S 5).toNat) (by omega) (by omega) st
  have c4 := rv_set c3 (i := 45 + 5 * (S 5).toNat) (by omega) (by omega) 0
  have c5 := rv_set c4 (i := 46 + 5 * (S 5).toNat) (by omega) (by omega) 0
  have c6 := rv_set c5 (i := 5) (by omega) (by omega) (S 5 + 1)
  unfold d_X9_adds
  simp (disch := first | omega | (unfold sm; omega)) only [wq_bd, wq_some, wq_bnd, wq_ite, bnd_e, bd_some, lit_, neg_I, I_lt, I_le, I_eq, I_add, I_sub, I_mul, I_clamp, chk_I, wchk_I, I_succ, Int.toNat_natCast, Int.reduceToNat, b01, b01I, bd_ite, if_true, if_false, ite_self, reduceIte, Int.reduceLE, Int.reduceLT, Int.reduceAdd, Int.reduceSub, Int.reduceNeg, Nat.reduceEqDiff, Nat.reduceAdd, e5]
  rw [show I (S 5) = I ((S 5).toNat : Int) from congrArg I eb]
  rw [(puts_e hn _).1, wq_some, (puts_e hn _).2.1, wq_some, (puts_e hn _).2.2.1, wq_some, (puts_e hn _).2.2.2.1, wq_some, (puts_e hn _).2.2.2.2, wq_some]
  have e5' : (mup (mup (mup (mup (mup M 144 (42 + 5 * (S 5).toNat) (I a)) 144 (43 + 5 * (S 5).toNat) (I r)) 144 (44 + 5 * (S 5).toNat) (I st)) 144 (45 + 5 * (S 5).toNat) (I 0)) 144 (46 + 5 * (S 5).toNat) (I 0)) 144 5 = I (S 5) := by
    rw [mup_s, upd_n (by omega), mup_s, upd_n (by omega), mup_s, upd_n (by omega), mup_s, upd_n (by omega), mup_s, upd_n (by omega), e5]
  rw [e5', I_add]
  refine ⟨trivial, ?_, fun i hi => ?_⟩
  · rw [mup_s, mup_s, mup_s, mup_s, mup_s, mup_s]
    exact c6
  · rw [mup_n hi, mup_n hi, mup_n hi, mup_n hi, mup_n hi, mup_n hi]
/-! addRecipe -/
def addR (S : Nat → Int) (f d t c : Int) : Nat → Int := setS (setS (setS (setS (setS S (10 + 4 * (S 4).toNat) f) (11 + 4 * (S 4).toNat) d) (12 + 4 * (S 4).toNat) t) (13 + 4 * (S 4).toNat) c) 4 (S 4 + 1)
theorem addR_o {S : Nat → Int} {f d t c : Int} {j : Nat} (h4 : j ≠ 4) (hj : j < 10 + 4 * (S 4).toNat ∨ 14 + 4 * (S 4).toNat ≤ j) : addR S f d t c j = S j := by
  unfold addR
  rw [setS_n h4, setS_n (by omega), setS_n (by omega), setS_n (by omega), setS_n (by omega)]
theorem SI_addR {S : Nat → Int} {W : List Wi} (h : SInv (S, W)) (h8 : S 4 < 8) {f d t c : Int} (h1 : 0 ≤ f ∧ f ≤ 3000) (h2 : 1 ≤ d ∧ d ≤ 500) (h3 : 1 ≤ t ∧ t ≤ 20) (h4 : 0 ≤ c ∧ c ≤ 9) : SInv (addR S f d t c, W) := by
  obtain ⟨g0, g1, g2, g3, g4, g5, g6, g7, g8, g9⟩ := h
  dsimp only at g0 g1 g2 g3 g4 g5 g6 g7 g8 g9
  have e4 : addR S f d t c 4 = S 4 + 1 := setS_s
  refine ⟨?_, ?_, ?_, ?_, ?_, ?_, g6, fun r hr => ?_, fun b hb => ?_, fun w hw => ?_⟩
  · dsimp only; rw [addR_o (by decide) (by omega)]; exact g0
  · dsimp only; rw [addR_o (by decide) (by omega), addR_o (by decide) (by omega)]; exact g1
  · dsimp only; rw [addR_o (by decide) (by omega)]; exact g2
  · dsimp only; rw [addR_o (by decide) (by omega)]; exact g3
  · dsimp only; rw [e4]; omega
  · dsimp only; rw [addR_o (by decide) (by omega)]; exact g5
  · dsimp only at hr ⊢
    rw [e4] at hr
    by_cases k : (r : Int) < S 4
    · have := g7 r k
      unfold rcOk at this ⊢
      rw [addR_o (by omega) (by omega), addR_o (by omega) (by omega), addR_o (by omega) (by omega), addR_o (by omega) (by omega)]
      exact this
    · have er : r = (S 4).toNat := by omega
      subst er
      unfold rcOk addR
      rw [setS_n (show 10 + 4 * (S 4).toNat ≠ 4 by omega), setS_n (show 10 + 4 * (S 4).toNat ≠ 13 + 4 * (S 4).toNat by omega), setS_n (show 10 + 4 * (S 4).toNat ≠ 12 + 4 * (S 4).toNat by omega), setS_n (show 10 + 4 * (S 4).toNat ≠ 11 + 4 * (S 4).toNat by omega), setS_s]
      rw [setS_n (show 11 + 4 * (S 4).toNat ≠ 4 by omega), setS_n (show 11 + 4 * (S 4).toNat ≠ 13 + 4 * (S 4).toNat by omega), setS_n (show 11 + 4 * (S 4).toNat ≠ 12 + 4 * (S 4).toNat by omega), setS_s]
      rw [setS_n (show 12 + 4 * (S 4).toNat ≠ 4 by omega), setS_n (show 12 + 4 * (S 4).toNat ≠ 13 + 4 * (S 4).toNat by omega), setS_s]
      rw [setS_n (show 13 + 4 * (S 4).toNat ≠ 4 by omega), setS_s]
      exact ⟨h1, h2, h3, h4⟩
  · dsimp only at hb ⊢
    rw [addR_o (by decide) (by omega)] at hb
    obtain ⟨b1, b2, b3, b4, b5, b6⟩ := g8 b hb
    unfold bkOk
    rw [addR_o (show 42 + 5 * b ≠ 4 by omega) (by omega), addR_o (show 43 + 5 * b ≠ 4 by omega) (by omega), addR_o (show 44 + 5 * b ≠ 4 by omega) (by omega), addR_o (show 45 + 5 * b ≠ 4 by omega) (by omega), addR_o (show 0 ≠ 4 by decide) (by omega), e4, addR_o (show 12 + 4 * (S (43 + 5 * b)).toNat ≠ 4 by omega) (by omega)]
    exact ⟨b1, by omega, b3, b4, b5, b6⟩
  · have := g9 w hw
    unfold wiOk at this ⊢
    dsimp only
    rw [addR_o (show 0 ≠ 4 by decide) (by omega), e4]
    omega
theorem rapp_spec {M : Mem} {S : Nat → Int} {W : List Wi} (hc : cv 0 M (S, W)) (hi : SInv (S, W)) (h8 : S 4 < 8) (f d t c : Int) : wp (d_X4_append 0 (I f) (I d) (I t) (I c) M) (fun x M1 => x = I (S 4) ∧ cv 0 M1 (addR S f d t c, W) ∧ ∀ i, 16 ≤ i → M1 i = M i) := by
  have h4 := (si_n hi).2.2.2.2.1
  have e4 := (cv_n hc).2.2.2.2.2.2.2.1
  have hn : (S 4).toNat < 8 := by omega
  have c1 := (cv_setr hc hn f).1
  have c2 := (cv_setr c1 hn d).2.1
  have c3 := (cv_setr c2 hn t).2.2.1
  have c4 := (cv_setr c3 hn c).2.2.2
  have c6 := (cv_set1 c4 (S 4 + 1)).2.2.2.2.2.2.2.1
  unfold d_X4_append
  simp only [mup_n (show sI 0 1 ≠ sI 0 2 by decide), mup_n (show sI 0 1 ≠ sI 0 3 by decide), mup_n (show sI 0 1 ≠ sI 0 4 by decide), mup_n (show sI 0 1 ≠ sI 0 5 by decide), e4, bnd_e]
  simp (disch := first | omega | (unfold sm; omega)) only [wq_bd, wq_some, wq_bnd, wq_ite, bnd_e, bd_some, lit_, neg_I, I_lt, I_le, I_eq, I_add, I_sub, I_mul, I_clamp, chk_I, wchk_I, I_succ, Int.toNat_natCast, Int.reduceToNat, b01, b01I, bd_ite, if_true, if_false, ite_self, reduceIte, Int.reduceLE, Int.reduceLT, Int.reduceAdd, Int.reduceSub, Int.reduceNeg, Nat.reduceEqDiff, Nat.reduceAdd]
  rw [if_pos h8]
  refine ⟨?_, c6, fun i hi => ?_⟩
  · rw [mup_s, upd_s]
    simp (disch := first | omega | (unfold sm; omega)) only [wq_bd, wq_some, wq_bnd, wq_ite, bnd_e, bd_some, lit_, neg_I, I_lt, I_le, I_eq, I_add, I_sub, I_mul, I_clamp, chk_I, wchk_I, I_succ, Int.toNat_natCast, Int.reduceToNat, b01, b01I, bd_ite, if_true, if_false, ite_self, reduceIte, Int.reduceLE, Int.reduceLT, Int.reduceAdd, Int.reduceSub, Int.reduceNeg, Nat.reduceEqDiff, Nat.reduceAdd]
    congr 1
    omega
  · rw [mup_n (by unfold sI; omega), mup_n (by unfold sI; omega), mup_n (by unfold sI; omega), mup_n (by unfold sI; omega), mup_n (by unfold sI; omega)]
/-! addRecipe, book, move -/
theorem b_addRecipe (p1 p2 p3 p4 : Int32) : Both (d_X8_addRecipe p1 p2 p3 p4) (d_X9_addRecipe p1 p2 p3 p4) := by
  obtain ⟨f, hf, rfl⟩ := of_I p1
  obtain ⟨d, hd, rfl⟩ := of_I p2
  obtain ⟨t, ht, rfl⟩ := of_I p3
  obtain ⟨c, hc, rfl⟩ := of_I p4
  intro A hA
  obtain ⟨⟨S, W⟩, l, o, T⟩ := A
  have hi : SInv (S, W) := hA.1
  obtain ⟨h0, h1, h2, h3, h4, h5, hl⟩ := si_n hi
  have bad : ∀ M, CSt M ((S, W), l, o, T) → wp (d_X8_addRecipe_B47 (I f) (I d) (I t) (I c) M) (fun x M1 => x = I (-2) ∧ CSt M1 ((S, W), l, o, T)) := by
    intro M h
    unfold d_X8_addRecipe_B47 d_X8_addRecipe_B48
    rw [if_pos rfl]
    exact wp_some ⟨rfl, h⟩
  by_cases c1 : 0 ≤ f ∧ f ≤ 3000
  · by_cases c2 : 1 ≤ d ∧ d ≤ 500
    · by_cases c3 : 1 ≤ t ∧ t ≤ 20
      · by_cases c4 : 0 ≤ c ∧ c ≤ 9
        · by_cases c5 : S 4 < 8
          · have hi' := SI_addR hi c5 c1 c2 c3 c4
            refine ⟨I (S 4), ((addR S f d t c, W), pushH l (S, W), o, T), AInv_push hA hi', fun M h => ?_, fun M h => ?_⟩
            · have e4 := (cv_n h.1).2.2.2.2.2.2.2.1
              unfold d_X8_addRecipe
              simp only [lit_, neg_I]
              refine gd_t (within_I hf (by omega) (by omega) M) c1 (gd_t (within_I hd (by omega) (by omega) M) c2 (gd_t (within_I ht (by omega) (by omega) M) c3 (gd_t (within_I hc (by omega) (by omega) M) c4 ?_)))
              unfold d_X8_addRecipe_B48
              rw [e4, if_neg (by decide)]
              simp (disch := first | omega | (unfold sm; omega)) only [wq_bd, wq_some, wq_bnd, wq_ite, bnd_e, bd_some, lit_, neg_I, I_lt, I_le, I_eq, I_add, I_sub, I_mul, I_clamp, chk_I, wchk_I, I_succ, Int.toNat_natCast, Int.reduceToNat, b01, b01I, bd_ite, if_true, if_false, ite_self, reduceIte, Int.reduceLE, Int.reduceLT, Int.reduceAdd, Int.reduceSub, Int.reduceNeg, Nat.reduceEqDiff, Nat.reduceAdd]
              rw [if_pos c5]
              refine cpush hA h (fun r M1 k => ?_)
              refine wp_mono (rapp_spec k.1 hi c5 f d t c) (fun r M2 q => ?_)
              exact ⟨q.1, CSt_upd k q.2.1 (CHist_congr k.2.1 (fun i hi => q.2.2 i (by omega))) (fun i hi => q.2.2 i (by omega))⟩
            · have e4 := (rv_n h.1).2.2.2.2.1
              unfold d_X9_addRecipe
              simp only [lit_, neg_I]
              refine gd_t (rin_I hf (by omega) (by omega) M) c1 (gd_t (rin_I hd (by omega) (by omega) M) c2 (gd_t (rin_I ht (by omega) (by omega) M) c3 (gd_t (rin_I hc (by omega) (by omega) M) c4 ?_)))
              simp (disch := first | omega | (unfold sm; omega)) only [wq_bd, wq_some, wq_bnd, wq_ite, bnd_e, bd_some, lit_, neg_I, I_lt, I_le, I_eq, I_add, I_sub, I_mul, I_clamp, chk_I, wchk_I, I_succ, Int.toNat_natCast, Int.reduceToNat, b01, b01I, bd_ite, if_true, if_false, ite_self, reduceIte, Int.reduceLE, Int.reduceLT, Int.reduceAdd, Int.reduceSub, Int.reduceNeg, Nat.reduceEqDiff, Nat.reduceAdd, e4]
              rw [if_neg (by omega)]
              refine rpush hA h (fun r M1 k k0 => ?_)
              have hn : (S 4).toNat < 8 := by omega
              rw [show (10 + 4 * S 4).toNat = 10 + 4 * (S 4).toNat by omega, show (10 + 4 * S 4 + 1).toNat = 11 + 4 * (S 4).toNat by omega, show (10 + 4 * S 4 + 2).toNat = 12 + 4 * (S 4).toNat by omega, show (10 + 4 * S 4 + 3).toNat = 13 + 4 * (S 4).toNat by omega]
              have c1 := rv_set k.1 (i := 10 + 4 * (S 4).toNat) (by omega) (by omega) f
              have c2 := rv_set c1 (i := 11 + 4 * (S 4).toNat) (by omega) (by omega) d
              have c3 := rv_set c2 (i := 12 + 4 * (S 4).toNat) (by omega) (by omega) t
              have c4 := rv_set c3 (i := 13 + 4 * (S 4).toNat) (by omega) (by omega) c
              have c6 := rv_set c4 (i := 4) (by omega) (by omega) (S 4 + 1)
              have e4' : (mup (mup (mup (mup M1 144 (10 + 4 * (S 4).toNat) (I f)) 144 (11 + 4 * (S 4).toNat) (I d)) 144 (12 + 4 * (S 4).toNat) (I t)) 144 (13 + 4 * (S 4).toNat) (I c)) 144 4 = I (S 4) := by
                rw [mup_s, upd_n (by omega), mup_s, upd_n (by omega), mup_s, upd_n (by omega), mup_s, upd_n (by omega)]
                exact (rv_n k.1).2.2.2.2.1
              rw [e4', I_add]
              refine ⟨trivial, RSt_upd k ?_ (RHist_congr k.2.1 ?_ ?_) (fun j hj => ?_) ?_ ?_⟩
              · rw [mup_s, mup_s, mup_s, mup_s, mup_s]; exact c6
              · rw [mup_n (by decide), mup_n (by decide), mup_n (by decide), mup_n (by decide), mup_n (by decide)]
              · rw [mup_n (by decide), mup_n (by decide), mup_n (by decide), mup_n (by decide), mup_n (by decide)]
              · rw [mup_n (by decide), mup_n (by decide), mup_n (by decide), mup_n (by decide), mup_n (by decide)]
              · rw [mup_n (by decide), mup_n (by decide), mup_n (by decide), mup_n (by decide), mup_n (by decide)]
              · rw [mup_n (by decide), mup_n (by decide), mup_n (by decide), mup_n (by decide), mup_n (by decide)]
          · refine ⟨I (-3), ((S, W), l, o, T), hA, fun M h => ?_, fun M h => ?_⟩
            · have e4 := (cv_n h.1).2.2.2.2.2.2.2.1
              unfold d_X8_addRecipe
              simp only [lit_, neg_I]
              refine gd_t (within_I hf (by omega) (by omega) M) c1 (gd_t (within_I hd (by omega) (by omega) M) c2 (gd_t (within_I ht (by omega) (by omega) M) c3 (gd_t (within_I hc (by omega) (by omega) M) c4 ?_)))
              unfold d_X8_addRecipe_B48
              rw [e4, if_neg (by decide)]
              simp (disch := first | omega | (unfold sm; omega)) only [wq_bd, wq_some, wq_bnd, wq_ite, bnd_e, bd_some, lit_, neg_I, I_lt, I_le, I_eq, I_add, I_sub, I_mul, I_clamp, chk_I, wchk_I, I_succ, Int.toNat_natCast, Int.reduceToNat, b01, b01I, bd_ite, if_true, if_false, ite_self, reduceIte, Int.reduceLE, Int.reduceLT, Int.reduceAdd, Int.reduceSub, Int.reduceNeg, Nat.reduceEqDiff, Nat.reduceAdd]
              rw [if_neg c5]
              exact ⟨trivial, h⟩
            · have e4 := (rv_n h.1).2.2.2.2.1
              unfold d_X9_addRecipe
              simp only [lit_, neg_I]
              refine gd_t (rin_I hf (by omega) (by omega) M) c1 (gd_t (rin_I hd (by omega) (by omega) M) c2 (gd_t (rin_I ht (by omega) (by omega) M) c3 (gd_t (rin_I hc (by omega) (by omega) M) c4 ?_)))
              simp (disch := first | omega | (unfold sm; omega)) only [wq_bd, wq_some, wq_bnd, wq_ite, bnd_e, bd_some, lit_, neg_I, I_lt, I_le, I_eq, I_add, I_sub, I_mul, I_clamp, chk_I, wchk_I, I_succ, Int.toNat_natCast, Int.reduceToNat, b01, b01I, bd_ite, if_true, if_false, ite_self, reduceIte, Int.reduceLE, Int.reduceLT, Int.reduceAdd, Int.reduceSub, Int.reduceNeg, Nat.reduceEqDiff, Nat.reduceAdd, e4]
              rw [if_pos (by omega)]
              exact ⟨trivial, h⟩
        · refine ⟨I (-2), ((S, W), l, o, T), hA, fun M h => ?_, fun M h => ?_⟩
          · unfold d_X8_addRecipe
            simp only [lit_, neg_I]
            exact gd_t (within_I hf (by omega) (by omega) M) c1 (gd_t (within_I hd (by omega) (by omega) M) c2 (gd_t (within_I ht (by omega) (by omega) M) c3 (gd_f (within_I hc (by omega) (by omega) M) c4 (bad M h))))
          · unfold d_X9_addRecipe
            simp only [lit_, neg_I]
            exact gd_t (rin_I hf (by omega) (by omega) M) c1 (gd_t (rin_I hd (by omega) (by omega) M) c2 (gd_t (rin_I ht (by omega) (by omega) M) c3 (gd_f (rin_I hc (by omega) (by omega) M) c4 (wp_some ⟨rfl, h⟩))))
      · refine ⟨I (-2), ((S, W), l, o, T), hA, fun M h => ?_, fun M h => ?_⟩
        · unfold d_X8_addRecipe
          simp only [lit_, neg_I]
          exact gd_t (within_I hf (by omega) (by omega) M) c1 (gd_t (within_I hd (by omega) (by omega) M) c2 (gd_f (within_I ht (by omega) (by omega) M) c3 (bad M h)))
        · unfold d_X9_addRecipe
          simp only [lit_, neg_I]
          exact gd_t (rin_I hf (by omega) (by omega) M) c1 (gd_t (rin_I hd (by omega) (by omega) M) c2 (gd_f (rin_I ht (by omega) (by omega) M) c3 (wp_some ⟨rfl, h⟩)))
    · refine ⟨I (-2), ((S, W), l, o, T), hA, fun M h => ?_, fun M h => ?_⟩
      · unfold d_X8_addRecipe
        simp only [lit_, neg_I]
        exact gd_t (within_I hf (by omega) (by omega) M) c1 (gd_f (within_I hd (by omega) (by omega) M) c2 (bad M h))
      · unfold d_X9_addRecipe
        simp only [lit_, neg_I]
        exact gd_t (rin_I hf (by omega) (by omega) M) c1 (gd_f (rin_I hd (by omega) (by omega) M) c2 (wp_some ⟨rfl, h⟩))
  · refine ⟨I (-2), ((S, W), l, o, T), hA, fun M h => ?_, fun M h => ?_⟩
    · unfold d_X8_addRecipe
      simp only [lit_, neg_I]
      exact gd_f (within_I hf (by omega) (by omega) M) c1 (bad M h)
    · unfold d_X9_addRecipe
      simp only [lit_, neg_I]
      exact gd_f (rin_I hf (by omega) (by omega) M) c1 (wp_some ⟨rfl, h⟩)
/-- what is wrong with a booking; 0: nothing -/
def errS (S : Nat → Int) (a r st : Int) : Int :=
  if ¬ (0 ≤ a ∧ a ≤ 5) then -1 else if ¬ (0 ≤ r ∧ r < S 4) then -1 else if ¬ (S 0 < st ∧ st ≤ S 0 + 60) then -2 else if S 5 = 60 then -3
  else if codeS S none a r.toNat st = 0 then 0 else if codeS S none a r.toNat st = 1 then -6 else -7
theorem errS_0 {S : Nat → Int} {W : List Wi} (hi : SInv (S, W)) {a r st : Int} (h : errS S a r st = 0) : (0 ≤ a ∧ a ≤ 5) ∧ (0 ≤ r ∧ r < S 4) ∧ (S 0 < st ∧ st ≤ S 0 + 60) ∧ S 5 < 60 := by
  have h5 := (si_n hi).2.2.2.2.2.1
  unfold errS at h
  by_cases c1 : 0 ≤ a ∧ a ≤ 5
  · rw [if_neg (fun hh => hh c1)] at h
    by_cases c2 : 0 ≤ r ∧ r < S 4
    · rw [if_neg (fun hh => hh c2)] at h
      by_cases c3 : S 0 < st ∧ st ≤ S 0 + 60
      · rw [if_neg (fun hh => hh c3)] at h
        by_cases c4 : S 5 = 60
        · rw [if_pos c4] at h; omega
        · exact ⟨c1, c2, c3, by omega⟩
      · rw [if_pos c3] at h; omega
    · rw [if_pos c2] at h; omega
  · rw [if_pos c1] at h; omega
theorem errS_b (S : Nat → Int) (a r st : Int) : -7 ≤ errS S a r st ∧ errS S a r st ≤ 0 := by
  unfold errS
  split
  · omega
  · split
    · omega
    · split
      · omega
      · split
        · omega
        · split
          · omega
          · split <;> omega
theorem errorOf_e {c : Int} (hc : 0 ≤ c ∧ c ≤ 3) (M : Mem) : d_X8_errorOf (I c) M = some (I (if c = 0 then 0 else if c = 1 then -6 else -7), M) := by
  unfold d_X8_errorOf
  rcases (show c = 0 ∨ c = 1 ∨ c = 2 ∨ c = 3 by omega) with rfl | rfl | rfl | rfl
  · rfl
  · rfl
  · rfl
  · rfl
theorem cerr_spec {S : Nat → Int} {W : List Wi} (hi : SInv (S, W)) {a r st : Int} (ha : -2147483648 ≤ a ∧ a < 2147483648) (hr : -2147483648 ≤ r ∧ r < 2147483648) (hst : -2147483648 ≤ st ∧ st < 2147483648) {M : Mem} (hc : cv 0 M (S, W)) : wp (d_X8_errorOfBooking (I a) (I r) (I st) M) (fun x M1 => x = I (errS S a r st) ∧ cqf M M1) := by
  obtain ⟨h0, h1, h2, h3, h4, h5, hl⟩ := si_n hi
  have e5 := (cv_n hc).2.2.2.2.2.2.2.2.1
  unfold d_X8_errorOfBooking errS
  simp only [lit_, neg_I]
  by_cases c1 : 0 ≤ a ∧ a ≤ 5
  · rw [if_neg (fun hh => hh c1)]
    refine gd_t (robot_I ha M).1 c1 ?_
    by_cases c2 : 0 ≤ r ∧ r < S 4
    · rw [if_neg (fun hh => hh c2)]
      refine gd_t (has4_I hc hi hr) c2 ?_
      by_cases c3 : S 0 < st ∧ st ≤ S 0 + 60
      · rw [if_neg (fun hh => hh c3)]
        refine gd_t (canStart_I hc hi hst) c3 ?_
        obtain ⟨rc, rfl⟩ : ∃ q : Nat, r = q := ⟨r.toNat, by omega⟩
        rw [e5]
        simp (disch := first | omega | (unfold sm; omega)) only [wq_bd, wq_some, wq_bnd, wq_ite, bnd_e, bd_some, lit_, neg_I, I_lt, I_le, I_eq, I_add, I_sub, I_mul, I_clamp, chk_I, wchk_I, I_succ, Int.toNat_natCast, Int.reduceToNat, b01, b01I, bd_ite, if_true, if_false, ite_self, reduceIte, Int.reduceLE, Int.reduceLT, Int.reduceAdd, Int.reduceSub, Int.reduceNeg, Nat.reduceEqDiff, Nat.reduceAdd]
        by_cases c4 : S 5 = 60
        · rw [if_neg (by omega), if_pos c4]
          exact ⟨rfl, cqf_r M⟩
        · rw [if_pos (by omega), if_neg c4]
          refine wp_mono (rag_spec hi (self := none) (rc := rc) ⟨c2.2, trivial⟩ (by omega) ha hc) (fun x M1 q => ?_)
          rw [q.1, errorOf_e (codeS_b S none a rc st), wq_some]
          exact ⟨rfl, q.2.2.2⟩
      · rw [if_pos c3]
        exact gd_f (canStart_I hc hi hst) c3 (wp_some ⟨rfl, cqf_r M⟩)
    · rw [if_pos c2]
      exact gd_f (has4_I hc hi hr) c2 (wp_some ⟨rfl, cqf_r M⟩)
  · rw [if_pos c1]
    exact gd_f (robot_I ha M).1 c1 (wp_some ⟨rfl, cqf_r M⟩)
theorem rerr_spec {S : Nat → Int} {W : List Wi} (hi : SInv (S, W)) {a r st : Int} (ha : -2147483648 ≤ a ∧ a < 2147483648) (hr : -2147483648 ≤ r ∧ r < 2147483648) (hst : -2147483648 ≤ st ∧ st < 2147483648) {M : Mem} (hc : rv (M 144) (S, W)) (hsc : scR M) : wp (d_X9_wrong (I a) (I r) (I st) M) (fun x M1 => x = I (errS S a r st) ∧ scR M1 ∧ rqf M M1) := by
  obtain ⟨h0, h1, h2, h3, h4, h5, hl⟩ := si_n hi
  have e5 := (rv_n hc).2.2.2.2.2.1
  unfold d_X9_wrong errS
  simp only [lit_, neg_I]
  by_cases c1 : 0 ≤ a ∧ a ≤ 5
  · rw [if_neg (fun hh => hh c1)]
    refine gn_t (robot_I ha M).2 c1 ?_
    by_cases c2 : 0 ≤ r ∧ r < S 4
    · rw [if_neg (fun hh => hh c2)]
      refine gn_t (noRec_I hc hi hr) c2 ?_
      by_cases c3 : S 0 < st ∧ st ≤ S 0 + 60
      · rw [if_neg (fun hh => hh c3)]
        refine gd_t (isStart_I hc hi hst) c3 ?_
        obtain ⟨rc, rfl⟩ : ∃ q : Nat, r = q := ⟨r.toNat, by omega⟩
        simp (disch := first | omega | (unfold sm; omega)) only [wq_bd, wq_some, wq_bnd, wq_ite, bnd_e, bd_some, lit_, neg_I, I_lt, I_le, I_eq, I_add, I_sub, I_mul, I_clamp, chk_I, wchk_I, I_succ, Int.toNat_natCast, Int.reduceToNat, b01, b01I, bd_ite, if_true, if_false, ite_self, reduceIte, Int.reduceLE, Int.reduceLT, Int.reduceAdd, Int.reduceSub, Int.reduceNeg, Nat.reduceEqDiff, Nat.reduceAdd, e5]
        by_cases c4 : S 5 = 60
        · rw [if_pos c4, if_pos c4]
          exact ⟨rfl, hsc, rqf_r M⟩
        · rw [if_neg c4, if_neg c4]
          refine wp_mono (bases_spec hi hc hsc (out := -1) (Or.inl rfl)) (fun x M1 q => ?_)
          obtain ⟨q1, q2, q3⟩ := q
          refine wp_mono (reason_spec hi (self := none) (rc := rc) ⟨c2.2, trivial⟩ (st := st) (by omega) ha (rqf_v q3 hc) q2 q1) (fun x M2 z => ?_)
          obtain ⟨z1, z2, z3, -⟩ := z
          have hcb := codeS_b S none a rc st
          rw [z1]
          simp (disch := first | omega | (unfold sm; omega)) only [wq_bd, wq_some, wq_bnd, wq_ite, bnd_e, bd_some, lit_, neg_I, I_lt, I_le, I_eq, I_add, I_sub, I_mul, I_clamp, chk_I, wchk_I, I_succ, Int.toNat_natCast, Int.reduceToNat, b01, b01I, bd_ite, if_true, if_false, ite_self, reduceIte, Int.reduceLE, Int.reduceLT, Int.reduceAdd, Int.reduceSub, Int.reduceNeg, Nat.reduceEqDiff, Nat.reduceAdd]
          by_cases k0 : codeS S none a rc st = 0
          · rw [if_pos k0, if_pos k0]; exact ⟨rfl, z2, rqf_t q3 z3⟩
          · rw [if_neg k0, if_neg k0]
            by_cases k1 : codeS S none a rc st = 1
            · rw [if_pos k1, if_pos k1]; exact ⟨rfl, z2, rqf_t q3 z3⟩
            · rw [if_neg k1, if_neg k1]; exact ⟨rfl, z2, rqf_t q3 z3⟩
      · rw [if_pos c3]
        exact gd_f (isStart_I hc hi hst) c3 (wp_some ⟨rfl, hsc, rqf_r M⟩)
    · rw [if_pos c2]
      exact gn_f (noRec_I hc hi hr) c2 (wp_some ⟨rfl, hsc, rqf_r M⟩)
  · rw [if_pos c1]
    exact gn_f (robot_I ha M).2 c1 (wp_some ⟨rfl, hsc, rqf_r M⟩)
theorem b_book (p1 p2 p3 : Int32) : Both (d_X8_book p1 p2 p3) (d_X9_book p1 p2 p3) := by
  obtain ⟨a, ha, rfl⟩ := of_I p1
  obtain ⟨r, hr, rfl⟩ := of_I p2
  obtain ⟨st, hst, rfl⟩ := of_I p3
  intro A hA
  obtain ⟨⟨S, W⟩, l, o, T⟩ := A
  have hi : SInv (S, W) := hA.1
  have hb := errS_b S a r st
  by_cases c : errS S a r st = 0
  · obtain ⟨c1, c2, c3, c4⟩ := errS_0 hi c
    have hi' := SI_add hi c4 c1 c2 c3
    refine ⟨I (S 5), ((addS S a r st, W), pushH l (S, W), o, T), AInv_push hA hi', fun M h => ?_, fun M h => ?_⟩
    · unfold d_X8_book
      rw [wq_bd]
      refine wp_mono (cerr_spec hi ha hr hst h.1) (fun x M1 q => ?_)
      rw [q.1, c, if_pos (show (I 0 : Int32) = 0 from rfl), wq_bd]
      refine cpush hA (cqf_S q.2 h) (fun x M2 k => ?_)
      rw [wq_bd]
      refine wp_mono (app_spec k.1 hi c4 a r st) (fun x M3 z => ?_)
      rw [wq_some]
      exact ⟨z.1, CSt_upd k z.2.1 (CHist_congr k.2.1 (fun i hi => z.2.2 i (by omega))) (fun i hi => z.2.2 i (by omega))⟩
    · unfold d_X9_book
      rw [wq_bd]
      refine wp_mono (rerr_spec hi ha hr hst h.1 h.2.2.2.2) (fun x M1 q => ?_)
      rw [q.1, c, if_pos (show (I 0 : Int32) = 0 from rfl), wq_bd]
      refine rpush hA (rqf_S q.2.2 q.2.1 h) (fun x M2 k k0 => ?_)
      rw [wq_bd]
      refine wp_mono (adds_spec k.1 hi c4 a r st) (fun x M3 z => ?_)
      rw [wq_some]
      exact ⟨z.1, RSt_upd k z.2.1 (RHist_congr k.2.1 (by rw [z.2.2 143 (by decide)]) (z.2.2 145 (by decide))) (fun j hj => by rw [z.2.2 143 (by decide)]) (z.2.2 146 (by decide)) (z.2.2 153 (by decide))⟩
  · refine ⟨I (errS S a r st), ((S, W), l, o, T), hA, fun M h => ?_, fun M h => ?_⟩
    · unfold d_X8_book
      rw [wq_bd]
      refine wp_mono (cerr_spec hi ha hr hst h.1) (fun x M1 q => ?_)
      rw [q.1]
      simp (disch := first | omega | (unfold sm; omega)) only [wq_bd, wq_some, wq_bnd, wq_ite, bnd_e, bd_some, lit_, neg_I, I_lt, I_le, I_eq, I_add, I_sub, I_mul, I_clamp, chk_I, wchk_I, I_succ, Int.toNat_natCast, Int.reduceToNat, b01, b01I, bd_ite, if_true, if_false, ite_self, reduceIte, Int.reduceLE, Int.reduceLT, Int.reduceAdd, Int.reduceSub, Int.reduceNeg, Nat.reduceEqDiff, Nat.reduceAdd]
      rw [if_neg c]
      exact ⟨trivial, cqf_S q.2 h⟩
    · unfold d_X9_book
      rw [wq_bd]
      refine wp_mono (rerr_spec hi ha hr hst h.1 h.2.2.2.2) (fun x M1 q => ?_)
      rw [q.1]
      simp (disch := first | omega | (unfold sm; omega)) only [wq_bd, wq_some, wq_bnd, wq_ite, bnd_e, bd_some, lit_, neg_I, I_lt, I_le, I_eq, I_add, I_sub, I_mul, I_clamp, chk_I, wchk_I, I_succ, Int.toNat_natCast, Int.reduceToNat, b01, b01I, bd_ite, if_true, if_false, ite_self, reduceIte, Int.reduceLE, Int.reduceLT, Int.reduceAdd, Int.reduceSub, Int.reduceNeg, Nat.reduceEqDiff, Nat.reduceAdd]
      rw [if_neg c]
      exact ⟨trivial, rqf_S q.2.2 q.2.1 h⟩
/-! move -/
def Both2 (oc orr : Mem → Ans) : Prop := ∀ A, AInv A → ∃ A', AInv A' ∧ (∀ M, CSt M A → wp (oc M) (fun _ M1 => CSt M1 A')) ∧ ∀ M, RSt M A → wp (orr M) (fun _ M2 => RSt M2 A')
theorem Both_2 {oc orr : Mem → Ans} (h : Both oc orr) : Both2 oc orr := by
  intro A hA
  obtain ⟨r, A', h1, h2, h3⟩ := h A hA
  exact ⟨A', h1, fun M hM => wp_mono (h2 M hM) (fun _ _ q => q.2), fun M hM => wp_mono (h3 M hM) (fun _ _ q => q.2)⟩
theorem SI_bk {S : Nat → Int} {W : List Wi} (h : SInv (S, W)) {b : Nat} {i : Nat} {v : Int} (hb : (b : Int) < S 5) (hi : i = 44 + 5 * b ∨ i = 45 + 5 * b) (hk : bkOk (setS S i v) b) : SInv (setS S i v, W) := by
  obtain ⟨g0, g1, g2, g3, g4, g5, g6, g7, g8, g9⟩ := h
  dsimp only at g0 g1 g2 g3 g4 g5 g6 g7 g8 g9
  have e : ∀ j, j < 42 → setS S i v j = S j := fun j hj => setS_n (by omega)
  refine ⟨?_, ?_, ?_, ?_, ?_, ?_, g6, fun r hr => ?_, fun b' hb' => ?_, fun w hw => ?_⟩
  · dsimp only; rw [e 0 (by decide)]; exact g0
  · dsimp only; rw [e 1 (by decide), e 2 (by decide)]; exact g1
  · dsimp only; rw [e 2 (by decide)]; exact g2
  · dsimp only; rw [e 3 (by decide)]; exact g3
  · dsimp only; rw [e 4 (by decide)]; exact g4
  · dsimp only; rw [e 5 (by decide)]; exact g5
  · dsimp only at hr ⊢
    rw [e 4 (by decide)] at hr
    have := g7 r hr
    unfold rcOk at this ⊢
    rw [e _ (by omega), e _ (by omega), e _ (by omega), e _ (by omega)]
    exact this
  · dsimp only at hb' ⊢
    rw [e 5 (by decide)] at hb'
    by_cases c : b' = b
    · subst c; exact hk
    · exact bk_c (g8 b' hb') g4.2 (e 0 (by decide)) (e 4 (by decide)) (fun j h1 h2 => setS_n (by omega)) (fun j h1 h2 => e j h2)
  · have := g9 w hw
    unfold wiOk at this ⊢
    dsimp only
    rw [e 0 (by decide), e 4 (by decide)]
    exact this
theorem SI_mv {S : Nat → Int} {W : List Wi} (h : SInv (S, W)) {b : Nat} {st : Int} (hb : (b : Int) < S 5) (h0 : S (45 + 5 * b) = 0) (hst : S 0 < st ∧ st ≤ S 0 + 60) : SInv (setS S (44 + 5 * b) st, W) := by
  obtain ⟨b1, b2, b3, b4, b5, b6⟩ := si_b h hb
  have g0 := (si_n h).1
  have g4 := (si_n h).2.2.2.2.1
  refine SI_bk h hb (Or.inl rfl) ?_
  unfold bkOk
  rw [setS_n (show 42 + 5 * b ≠ 44 + 5 * b by omega), setS_n (show 43 + 5 * b ≠ 44 + 5 * b by omega), setS_s, setS_n (show 45 + 5 * b ≠ 44 + 5 * b by omega), setS_n (show 0 ≠ 44 + 5 * b by omega), setS_n (show 4 ≠ 44 + 5 * b by omega)]
  exact ⟨b1, b2, by omega, b4, fun _ => hst.1, fun hh => absurd hh (by omega)⟩
theorem SI_cn {S : Nat → Int} {W : List Wi} (h : SInv (S, W)) {b : Nat} (hb : (b : Int) < S 5) : SInv (setS S (45 + 5 * b) 4, W) := by
  obtain ⟨b1, b2, b3, b4, b5, b6⟩ := si_b h hb
  refine SI_bk h hb (Or.inr rfl) ?_
  unfold bkOk
  rw [setS_n (show 42 + 5 * b ≠ 45 + 5 * b by omega), setS_n (show 43 + 5 * b ≠ 45 + 5 * b by omega), setS_n (show 44 + 5 * b ≠ 45 + 5 * b by omega), setS_s, setS_n (show 0 ≠ 45 + 5 * b by omega), setS_n (show 4 ≠ 45 + 5 * b by omega)]
  exact ⟨b1, b2, b3, by omega, fun hh => absurd hh (by decide), fun hh => absurd hh (by decide)⟩
theorem ca_b {S : Nat → Int} {W : List Wi} (h : SInv (S, W)) {b : Nat} (hb : (b : Int) < S 5) (h0 : S (45 + 5 * b) ≤ 1) : CaOk S (some b) (rcN S b) := ⟨(rcN_l h hb).1, hb, h0, rcN_e h hb⟩
theorem b_move (p1 p2 : Int32) : Both2 (d_X8_move p1 p2) (d_X9_move p1 p2) := by
  obtain ⟨a, ha, rfl⟩ := of_I p1
  obtain ⟨st, hst, rfl⟩ := of_I p2
  intro A hA
  obtain ⟨⟨S, W⟩, l, o, T⟩ := A
  have hi : SInv (S, W) := hA.1
  obtain ⟨h0, h1, h2, h3, h4, h5, hl⟩ := si_n hi
  by_cases c : 0 ≤ a ∧ a < S 5
  · obtain ⟨b, rfl⟩ : ∃ q : Nat, a = q := ⟨a.toNat, by omega⟩
    obtain ⟨k1, k2, k3, k4, -, -⟩ := si_b hi c.2
    have e43 := rcN_e hi c.2
    by_cases c0 : S (45 + 5 * b) = 0
    · by_cases c3 : S 0 < st ∧ st ≤ S 0 + 60
      · have hca := ca_b hi c.2 (by omega)
        have hcb := codeS_b S (some b) (S (42 + 5 * b)) (rcN S b) st
        -- the class, up to the reason
        have cls : ∀ (Q : Int32 → Mem → Prop) M, CSt M ((S, W), l, o, T) → (∀ M1, CSt M1 ((S, W), l, o, T) → codeS S (some b) (S (42 + 5 * b)) (rcN S b) st ≠ 0 → ∀ r, Q r M1) → (∀ M1, CSt M1 ((S, W), l, o, T) → codeS S (some b) (S (42 + 5 * b)) (rcN S b) st = 0 → wp (if I (S (44 + 5 * b)) = I st then some (I (-5), M1) else bd (d_X2_push 0 M1) fun r13 M12 => chk (I b) 60 (bnd (mup M12 (sI 0 9) (I (b : Int)).toNatClampNeg (I st)) fun M14 => some (I (S (44 + 5 * b)), M14))) Q) → wp (d_X8_move (I b) (I st) M) Q := by
          intro Q M h q1 q2
          obtain ⟨n0, n1, n2, n3, n4⟩ := cv_b h.1 (b := b) (by omega)
          rw [e43] at n1
          unfold d_X8_move
          simp only [lit_, neg_I]
          refine gd_t (has0_I h.1 hi ha) c ?_
          rw [wchk_I (by omega) (by omega) (by omega), I_clamp (by unfold sm; omega), Int.toNat_natCast, n3]
          refine wif_t c0 (gd_t (canStart_I h.1 hi hst) c3 ?_)
          rw [wchk_I (by omega) (by omega) (by omega), wq_bnd, wchk_I (by omega) (by omega) (by omega), wq_bnd, n0, n1, wq_bd]
          refine wp_mono (rag_spec hi hca (st := st) (by omega) (ro := S (42 + 5 * b)) (by omega) h.1) (fun x M1 q => ?_)
          have hC := cqf_S q.2.2.2 h
          rw [q.1, errorOf_e hcb, bd_some]
          by_cases kc : codeS S (some b) (S (42 + 5 * b)) (rcN S b) st = 0
          · have n2' := (cv_b hC.1 (b := b) (by omega)).2.2.1
            rw [if_pos kc, if_pos rfl, wchk_I (by omega) (by omega) (by omega), wq_bnd, n2']
            have := q2 M1 hC kc
            rw [I_clamp (by unfold sm; omega), Int.toNat_natCast] at this
            exact this
          · rw [if_neg kc]
            by_cases kc1 : codeS S (some b) (S (42 + 5 * b)) (rcN S b) st = 1
            · rw [if_pos kc1, if_neg (by decide)]
              exact wp_some (q1 M1 hC kc _)
            · rw [if_neg kc1, if_neg (by decide)]
              exact wp_some (q1 M1 hC kc _)
        by_cases c5 : S (44 + 5 * b) = st
        · refine ⟨((S, W), l, o, T), hA, fun M h => cls _ M h (fun M1 hM _ _ => hM) (fun M1 hM _ => wif_t c5 (wp_some hM)), fun M h => ?_⟩
          obtain ⟨q0, q1, q2, q3, q4⟩ := rof0 h.1 (b := b) (by omega)
          unfold d_X9_move
          simp only [lit_, neg_I]
          refine gn_t (noBk_I h.1 hi ha) c ?_
          rw [q3, bd_some]
          refine wif_t c0 (gd_t (isStart_I h.1 hi hst) c3 ?_)
          rw [q2, bd_some]
          exact wif_t c5 (wp_some h)
        · -- the reference, up to the reason
          have ref : ∀ (Q : Int32 → Mem → Prop) M, RSt M ((S, W), l, o, T) → (∀ M1, RSt M1 ((S, W), l, o, T) → codeS S (some b) (S (42 + 5 * b)) (rcN S b) st ≠ 0 → ∀ r, Q r M1) → (∀ M1, RSt M1 ((S, W), l, o, T) → codeS S (some b) (S (42 + 5 * b)) (rcN S b) st = 0 → wp (d_X9_record M1) (fun _ M17 => wp (d_X9_puts (I b) (I 2) (I st) M17) (fun _ M19 => Q (I (S (44 + 5 * b))) M19))) → wp (d_X9_move (I b) (I st) M) Q := by
            intro Q M h y1 y2
            obtain ⟨q0, q1, q2, q3, q4⟩ := rof0 h.1 (b := b) (by omega)
            unfold d_X9_move
            simp only [lit_, neg_I]
            refine gn_t (noBk_I h.1 hi ha) c ?_
            rw [q3, bd_some]
            refine wif_t c0 (gd_t (isStart_I h.1 hi hst) c3 ?_)
            rw [q2, bd_some]
            refine wif_f (by omega) hst c5 ?_
            rw [wq_bd]
            refine wp_mono (bases_spec hi h.1 h.2.2.2.2 (out := (b : Int)) (Or.inr ⟨b, rfl, by omega⟩)) (fun x M1 q => ?_)
            obtain ⟨z1, z2, z3⟩ := q
            obtain ⟨q0, q1, q2, q3, q4⟩ := rof0 (rqf_v z3 h.1) (b := b) (by omega)
            rw [e43] at q1
            rw [q0, bd_some, q1, bd_some, wq_bd]
            refine wp_mono (reason_spec hi hca (st := st) (by omega) (ro := S (42 + 5 * b)) (by omega) (rqf_v z3 h.1) z2 z1) (fun x M2 z => ?_)
            obtain ⟨u1, u2, u3, -⟩ := z
            have hR := rqf_S (rqf_t z3 u3) u2 h
            rw [u1]
            by_cases kc : codeS S (some b) (S (42 + 5 * b)) (rcN S b) st = 0
            · refine wif_t kc ?_
              rw [wq_bd]
              refine wp_mono (y2 M2 hR kc) (fun x M3 v => ?_)
              rw [wq_bd]
              exact wp_mono v (fun x M4 v => wp_some v)
            · refine wif_f (by omega) (by omega) kc ?_
              by_cases kc1 : codeS S (some b) (S (42 + 5 * b)) (rcN S b) st = 1
              · exact wif_t kc1 (wp_some (y1 M2 hR kc _))
              · exact wif_f (by omega) (by omega) kc1 (wp_some (y1 M2 hR kc _))
          by_cases kc : codeS S (some b) (S (42 + 5 * b)) (rcN S b) st = 0
          · refine ⟨((setS S (44 + 5 * b) st, W), pushH l (S, W), o, T), AInv_push hA (SI_mv hi c.2 c0 c3), fun M h => ?_, fun M h => ?_⟩
            · refine cls _ M h (fun M1 _ hk => absurd kc hk) (fun M1 hM _ => ?_)
              refine wif_f (by omega) hst c5 ?_
              rw [wq_bd]
              refine cpush hA hM (fun x M2 k => ?_)
              rw [wchk_I (by omega) (by omega) (by omega), wq_bnd, wq_some, I_clamp (by unfold sm; omega), Int.toNat_natCast]
              exact CSt_upd k (cv_setb k.1 (b := b) (by omega) st).2.2.1 (CHist_congr k.2.1 (fun i hi => by rw [mup_n (by unfold sI; omega)])) (fun i hi => by rw [mup_n (by unfold sI; omega)])
            · refine ref _ M h (fun M1 _ hk => absurd kc hk) (fun M1 hM _ => ?_)
              refine rpush hA hM (fun x M2 k k0 => ?_)
              rw [(puts_e (b := b) (by omega) _).2.2.1, wq_some]
              have hv := rv_set k.1 (i := 44 + 5 * b) (by omega) (by omega) st
              refine RSt_upd k (by rw [mup_s]; exact hv) (RHist_congr k.2.1 ?_ ?_) (fun j hj => ?_) ?_ ?_ <;> rw [mup_n (by decide)]
          · exact ⟨((S, W), l, o, T), hA, fun M h => cls _ M h (fun M1 hM _ _ => hM) (fun M1 _ hk => absurd hk kc), fun M h => ref _ M h (fun M1 hM _ _ => hM) (fun M1 _ hk => absurd hk kc)⟩
      · refine ⟨((S, W), l, o, T), hA, fun M h => ?_, fun M h => ?_⟩
        · obtain ⟨n0, n1, n2, n3, n4⟩ := cv_b h.1 (b := b) (by omega)
          unfold d_X8_move
          simp only [lit_, neg_I]
          refine gd_t (has0_I h.1 hi ha) c ?_
          rw [wchk_I (by omega) (by omega) (by omega), I_clamp (by unfold sm; omega), Int.toNat_natCast, n3]
          exact wif_t c0 (gd_f (canStart_I h.1 hi hst) c3 (wp_some h))
        · obtain ⟨q0, q1, q2, q3, q4⟩ := rof0 h.1 (b := b) (by omega)
          unfold d_X9_move
          simp only [lit_, neg_I]
          refine gn_t (noBk_I h.1 hi ha) c ?_
          rw [q3, bd_some]
          exact wif_t c0 (gd_f (isStart_I h.1 hi hst) c3 (wp_some h))
    · refine ⟨((S, W), l, o, T), hA, fun M h => ?_, fun M h => ?_⟩
      · obtain ⟨n0, n1, n2, n3, n4⟩ := cv_b h.1 (b := b) (by omega)
        unfold d_X8_move
        simp only [lit_, neg_I]
        refine gd_t (has0_I h.1 hi ha) c ?_
        rw [wchk_I (by omega) (by omega) (by omega), I_clamp (by unfold sm; omega), Int.toNat_natCast, n3]
        exact wif_f (by omega) (by omega) c0 (wp_some h)
      · obtain ⟨q0, q1, q2, q3, q4⟩ := rof0 h.1 (b := b) (by omega)
        unfold d_X9_move
        simp only [lit_, neg_I]
        refine gn_t (noBk_I h.1 hi ha) c ?_
        rw [q3, bd_some]
        exact wif_f (by omega) (by omega) c0 (wp_some h)
  · refine ⟨((S, W), l, o, T), hA, fun M h => ?_, fun M h => ?_⟩
    · unfold d_X8_move
      simp only [lit_, neg_I]
      exact gd_f (has0_I h.1 hi ha) c (wp_some h)
    · unfold d_X9_move
      simp only [lit_, neg_I]
      exact gn_f (noBk_I h.1 hi ha) c (wp_some h)
/-! wish -/
/-- the start that a wish gets, or NONE -/
def fitS (S : Nat → Int) (a : Int) (rc : Nat) (f : Int) : Int := if S 5 = 60 then -5 else firS S none a rc f (f + 20)
def grtS (S : Nat → Int) (a rc st : Int) : Nat → Int := addS (setS S 7 (S 7 + 1)) a rc st
theorem fitS_b {S : Nat → Int} {W : List Wi} (hi : SInv (S, W)) {a : Int} {rc : Nat} {f : Int} (h : fitS S a rc f ≠ -5) : S 5 < 60 ∧ S 0 < fitS S a rc f ∧ fitS S a rc f ≤ S 0 + 60 ∧ fitS S a rc f = firS S none a rc f (f + 20) := by
  have h5 := (si_n hi).2.2.2.2.2.1
  unfold fitS at h ⊢
  by_cases c : S 5 = 60
  · rw [if_pos c] at h; exact absurd rfl h
  · rw [if_neg c] at h ⊢
    rcases firS_b (S := S) (self := none) (ro := a) (rc := rc) (fr := f) (to := f + 20) with h1 | h1
    · exact absurd h1 h
    · exact ⟨by omega, h1.1, h1.2.1, rfl⟩
theorem SI_7 {S : Nat → Int} {W : List Wi} (hi : SInv (S, W)) (v : Int) : SInv (setS S 7 v, W) := by
  obtain ⟨h0, h1, h2, h3, h4, h5, hl⟩ := si_n hi
  refine SI_set hi (by omega) _ ?_ ?_ ?_ <;> simp only [setS, Nat.reduceEqDiff, if_false] <;> omega
theorem SI_grt {S : Nat → Int} {W : List Wi} (hi : SInv (S, W)) {a : Int} {rc : Nat} {st : Int} (h60 : S 5 < 60) (h1 : 0 ≤ a ∧ a ≤ 5) (h2 : (rc : Int) < S 4) (h3 : S 0 < st ∧ st ≤ S 0 + 60) : SInv (grtS S a rc st, W) := by
  have e5 : setS S 7 (S 7 + 1) 5 = S 5 := setS_n (by decide)
  have e4 : setS S 7 (S 7 + 1) 4 = S 4 := setS_n (by decide)
  have e0 : setS S 7 (S 7 + 1) 0 = S 0 := setS_n (by decide)
  exact SI_add (SI_7 hi _) (by rw [e5]; exact h60) h1 (by rw [e4]; omega) (by rw [e0]; exact h3)
/-- what a grant may write -/
def grf (M M1 : Mem) : Prop := (∀ i, i ≠ 143 → i ≠ 144 → i < 148 ∨ 151 < i → M1 i = M i) ∧ ∀ j, j < 10 ∨ 16 < j → M1 143 j = M 143 j
theorem grf_q {M M1 : Mem} (h : rqf M M1) : grf M M1 := ⟨fun i a _ b => h.1 i a b, h.2⟩
theorem grf_t {M M1 M2 : Mem} (h : grf M M1) (k : grf M1 M2) : grf M M2 := ⟨fun i a b c => (k.1 i a b c).trans (h.1 i a b c), fun j a => (k.2 j a).trans (h.2 j a)⟩
theorem grf_S {M M1 : Mem} (h : grf M M1) (hsc : scR M1) {s s' : St} {l : List St} {o : Option St} {T : List Int32} (hR : RSt M (s, l, o, T)) (hv : rv (M1 144) s') : RSt M1 (s', l, o, T) :=
  ⟨hv, RHist_congr hR.2.1 (h.2 2 (by decide)) (h.1 145 (by decide) (by decide) (by decide)), snR_congr hR.2.2.1 (h.2 4 (by decide)) (h.1 146 (by decide) (by decide) (by decide)), txR_congr hR.2.2.2.1 (h.2 18 (by decide)) (h.1 153 (by decide) (by decide) (by decide)), hsc⟩
theorem grants_spec {S : Nat → Int} {W : List Wi} (hi : SInv (S, W)) {a : Int} {rc : Nat} {f : Int} (ha : 0 ≤ a ∧ a ≤ 5) (hrc : (rc : Int) < S 4) (hf : 1 ≤ f ∧ f ≤ S 0 + 60) {M : Mem} (hr : rv (M 144) (S, W)) (hsc : scR M) : wp (d_X9_grants (I a) (I rc) (I f) M) (fun x M1 => (fitS S a rc f = -5 → x = I (-5) ∧ rv (M1 144) (S, W)) ∧ (fitS S a rc f ≠ -5 → x = I (S 5) ∧ rv (M1 144) (grtS S a rc (fitS S a rc f), W)) ∧ scR M1 ∧ grf M M1) := by
  obtain ⟨h0, h1, h2, h3, h4, h5, hl⟩ := si_n hi
  have e5 := (rv_n hr).2.2.2.2.2.1
  unfold d_X9_grants
  simp only [lit_, neg_I]
  rw [wchk_I (by decide) (by decide) (by decide), I_clamp (by unfold sm; decide), show (5 : Int).toNat = 5 from rfl, e5]
  by_cases c : S 5 = 60
  · refine wif_t c (wp_some ⟨fun _ => ⟨rfl, hr⟩, fun hh => absurd ?_ hh, hsc, grf_q (rqf_r M)⟩)
    unfold fitS
    rw [if_pos c]
  · refine wif_f (by omega) (by omega) c ?_
    rw [wq_bd]
    refine wp_mono (bases_spec hi hr hsc (out := -1) (Or.inl rfl)) (fun x M1 q => ?_)
    obtain ⟨q1, q2, q3⟩ := q
    rw [wq_bd, I_add]
    refine wp_mono (first_spec hi (self := none) (rc := rc) ⟨hrc, trivial⟩ (ro := a) (by omega) (fr := f) (to := f + 20) (by omega) (by omega) (rqf_v q3 hr) q2 q1) (fun x M2 z => ?_)
    obtain ⟨z1, z2, z3⟩ := z
    have hr2 := rqf_v (rqf_t q3 z3) hr
    have ef : fitS S a rc f = firS S none a rc f (f + 20) := by unfold fitS; rw [if_neg c]
    have hb := firS_b (S := S) (self := none) (ro := a) (rc := rc) (fr := f) (to := f + 20)
    rw [z1, ← ef]
    rw [← ef] at hb
    by_cases k : fitS S a rc f = -5
    · exact wif_t k (wp_some ⟨fun _ => ⟨rfl, hr2⟩, fun hh => absurd k hh, z2, grf_q (rqf_t q3 z3)⟩)
    · refine wif_f (by omega) (by omega) k ?_
      have e7 := (rv_n hr2).2.2.2.2.2.2.2.1
      rw [wchk_I (by decide) (by decide) (by decide), wchk_I (by decide) (by decide) (by decide), wq_bnd, I_clamp (by unfold sm; decide), show (7 : Int).toNat = 7 from rfl, e7, I_add, wq_bd]
      have hv := rv_set hr2 (i := 7) (by decide) (by decide) (S 7 + 1)
      have hv' : rv ((mup M2 144 7 (I (S 7 + 1))) 144) (setS S 7 (S 7 + 1), W) := by rw [mup_s]; exact hv
      have e5' : setS S 7 (S 7 + 1) 5 = S 5 := setS_n (by decide)
      refine wp_mono (adds_spec hv' (SI_7 hi _) (by rw [e5']; omega) a rc (fitS S a rc f)) (fun x M3 u => ?_)
      obtain ⟨u1, u2, u3⟩ := u
      rw [e5'] at u1
      rw [wq_some]
      refine ⟨fun hh => absurd hh k, fun _ => ⟨u1, u2⟩, scR_congr z2 (fun j h1 h2 => ?_), fun i i0 i1 i2 => ?_, fun j hj => ?_⟩
      · rw [u3 143 (by decide), mup_n (by decide)]
      · rw [u3 i i1, mup_n i1]
        exact (rqf_t q3 z3).1 i i0 i2
      · rw [u3 143 (by decide), mup_n (by decide)]
        exact (rqf_t q3 z3).2 j hj
theorem SI_Wadd {S : Nat → Int} {W : List Wi} (hi : SInv (S, W)) {w : Wi} (hl : W.length < 8) (hw : wiOk S w) : SInv (S, W ++ [w]) := by
  obtain ⟨h0, h1, h2, h3, h4, h5, h6, h7, h8, h9⟩ := hi
  refine ⟨h0, h1, h2, h3, h4, h5, ?_, h7, h8, fun x hx => ?_⟩
  · dsimp only
    rw [List.length_append]
    simp only [List.length_cons, List.length_nil]
    omega
  · rcases List.mem_append.mp hx with hx | hx
    · exact h9 x hx
    · rw [List.mem_singleton.mp hx]; exact hw
theorem rv_wadd {f : Nat → Int32} {S : Nat → Int} {W : List Wi} (h : rv f (S, W)) (hl : W.length < 8) (a b c : Int) : rv (upd (upd (upd (upd f (342 + 3 * W.length) (I a)) (343 + 3 * W.length) (I b)) (344 + 3 * W.length) (I c)) 6 (I (W.length + 1 : Nat))) (S, W ++ [(a, b, c)]) := by
  obtain ⟨h1, h2, h3⟩ := h
  have hlen : (W ++ [(a, b, c)]).length = W.length + 1 := by rw [List.length_append]; rfl
  refine ⟨fun i hi h6 => ?_, ?_, fun p w hp => ?_⟩
  · rw [upd_n h6, upd_n (by omega), upd_n (by omega), upd_n (by omega)]
    exact h1 i hi h6
  · dsimp only
    rw [upd_s, hlen]
  · dsimp only at hp
    have hpl := (List.getElem?_eq_some_iff.mp hp).1
    rw [hlen] at hpl
    rw [upd_n (show 342 + 3 * p ≠ 6 by omega), upd_n (show 343 + 3 * p ≠ 6 by omega), upd_n (show 344 + 3 * p ≠ 6 by omega), upd_n (show 342 + 3 * p ≠ 344 + 3 * W.length by omega), upd_n (show 342 + 3 * p ≠ 343 + 3 * W.length by omega), upd_n (show 343 + 3 * p ≠ 344 + 3 * W.length by omega)]
    by_cases e : p < W.length
    · rw [List.getElem?_append_left e] at hp
      rw [upd_n (by omega), upd_n (show 343 + 3 * p ≠ 343 + 3 * W.length by omega), upd_n (by omega), upd_n (show 344 + 3 * p ≠ 344 + 3 * W.length by omega), upd_n (by omega), upd_n (by omega)]
      exact h3 p w hp
    · have ep : p = W.length := by omega
      subst ep
      rw [List.getElem?_append_right (by omega), Nat.sub_self] at hp
      cases hp
      rw [upd_s, upd_s, upd_s]
      exact ⟨rfl, rfl, rfl⟩
theorem b_wish (p1 p2 p3 : Int32) : Both (d_X8_wish p1 p2 p3) (d_X9_wish p1 p2 p3) := by
  obtain ⟨a, ha, rfl⟩ := of_I p1
  obtain ⟨r, hr, rfl⟩ := of_I p2
  obtain ⟨f, hf, rfl⟩ := of_I p3
  intro A hA
  obtain ⟨⟨S, W⟩, l, o, T⟩ := A
  have hi : SInv (S, W) := hA.1
  obtain ⟨h0, h1, h2, h3, h4, h5, hl⟩ := si_n hi
  by_cases c1 : 0 ≤ a ∧ a ≤ 5
  · by_cases c2 : 0 ≤ r ∧ r < S 4
    · by_cases c3 : S 0 < f ∧ f ≤ S 0 + 60
      · obtain ⟨rc, rfl⟩ : ∃ q : Nat, r = q := ⟨r.toNat, by omega⟩
        have hca : CaOk S none rc := ⟨c2.2, trivial⟩
        have hfb := firS_b (S := S) (self := none) (ro := a) (rc := rc) (fr := f) (to := f + 20)
        -- the class, up to the first fit
        have cls : ∀ (Q : Int32 → Mem → Prop) M, CSt M ((S, W), l, o, T) → (∀ M1, CSt M1 ((S, W), l, o, T) → fitS S a rc f = -5 → wp (d_X8_wish_B128 (I a) (I rc) (I f) M1) Q) → (∀ M1, CSt M1 ((S, W), l, o, T) → fitS S a rc f ≠ -5 → wp (d_X2_push 0 M1) (fun _ M13 => wp (d_X0_append 0 (I a) (I rc) (I (fitS S a rc f)) (mup M13 (sI 0 0) 4 ((M13 (sI 0 0) 4) + I 1))) Q)) → wp (d_X8_wish (I a) (I rc) (I f) M) Q := by
          intro Q M h y1 y2
          have e5 := (cv_n h.1).2.2.2.2.2.2.2.2.1
          unfold d_X8_wish
          simp only [lit_, neg_I]
          refine gd_t (robot_I ha M).1 c1 (gd_t (has4_I h.1 hi hr) c2 (gd_t (canStart_I h.1 hi hf) c3 ?_))
          rw [e5, I_add, wq_bd]
          refine wp_mono (ff_spec hi hca ha (fr := f) (to := f + 20) (by omega) (by omega) h.1) (fun x M1 q => ?_)
          have hC := cqf_S q.2 h
          have e5' := (cv_n hC.1).2.2.2.2.2.2.2.2.1
          rw [q.1]
          by_cases k : firS S none a rc f (f + 20) = -5
          · refine wif_t k (y1 M1 hC ?_)
            unfold fitS
            rw [k, ite_self]
          · refine wif_f (by omega) (by omega) k ?_
            rw [e5']
            by_cases k2 : S 5 = 60
            · rw [if_pos (by rw [I_le (by unfold sm; omega) (by unfold sm; omega)]; omega)]
              exact y1 M1 hC (by unfold fitS; rw [if_pos k2])
            · have ef : fitS S a rc f = firS S none a rc f (f + 20) := by unfold fitS; rw [if_neg k2]
              rw [if_neg (by rw [I_le (by unfold sm; omega) (by unfold sm; omega)]; omega), wq_bd, ← ef]
              refine wp_mono (y2 M1 hC (by rw [ef]; exact k)) (fun x M2 u => ?_)
              rw [wq_bnd, wq_bd]
              exact wp_mono u (fun x M3 u => wp_some u)
        by_cases k : fitS S a rc f = -5
        · by_cases k8 : W.length = 8
          · refine ⟨I (-3), ((S, W), l, o, T), hA, fun M h => cls _ M h (fun M1 hC _ => ?_) (fun M1 hC hk => absurd k hk), fun M h => ?_⟩
            · have e6 := (cv_n hC.1).2.2.2.2.2.2.2.2.2
              unfold d_X8_wish_B128
              simp only [lit_, neg_I]
              rw [e6, if_neg (by rw [I_lt (by unfold sm; omega) (by unfold sm; omega)]; omega)]
              exact wp_some ⟨rfl, hC⟩
            · unfold d_X9_wish
              simp only [lit_, neg_I]
              refine gn_t (robot_I ha M).2 c1 (gn_t (noRec_I h.1 hi hr) c2 (gd_t (isStart_I h.1 hi hf) c3 ?_))
              rw [goes_e, bd_some, wq_bd]
              have hR1 : RSt (mset M 147 (fun j => if 0 ≤ j ∧ j < 366 then M 144 j else M 147 j)) ((S, W), l, o, T) := RSt_fr h (fun i hi => by rw [mset_n (by omega)]) (fun j hj => by rw [mset_n (by decide)])
              refine wp_mono (grants_spec hi c1 c2.2 (f := f) (by omega) hR1.1 hR1.2.2.2.2) (fun x M1 q => ?_)
              obtain ⟨q1, q2, q3, q4⟩ := q
              obtain ⟨u1, u2⟩ := q1 k
              have hR2 := grf_S q4 q3 hR1 u2
              have e6 := (rv_n hR2.1).2.2.2.2.2.2.1
              rw [u1]
              simp (disch := first | omega | (unfold sm; omega)) only [wq_bd, wq_some, wq_bnd, wq_ite, bnd_e, bd_some, lit_, neg_I, I_lt, I_le, I_eq, I_add, I_sub, I_mul, I_clamp, chk_I, wchk_I, I_succ, Int.toNat_natCast, Int.reduceToNat, b01, b01I, bd_ite, if_true, if_false, ite_self, reduceIte, Int.reduceLE, Int.reduceLT, Int.reduceAdd, Int.reduceSub, Int.reduceNeg, Nat.reduceEqDiff, Nat.reduceAdd, e6]
              rw [if_pos (by omega)]
              exact ⟨trivial, hR2⟩
          · have hw : wiOk S (a, (rc : Int), f) := ⟨c1, c2, by dsimp only; omega⟩
            refine ⟨I (1000 + (W.length + 1 : Nat)), ((S, W ++ [(a, (rc : Int), f)]), pushH l (S, W), o, T), AInv_push hA (SI_Wadd hi (by omega) hw), fun M h => cls _ M h (fun M1 hC _ => ?_) (fun M1 hC hk => absurd k hk), fun M h => ?_⟩
            · have e6 := (cv_n hC.1).2.2.2.2.2.2.2.2.2
              unfold d_X8_wish_B128
              simp only [lit_, neg_I]
              rw [e6, if_pos (by rw [I_lt (by unfold sm; omega) (by unfold sm; omega)]; omega), wq_bd]
              refine cpush hA hC (fun x M2 k => ?_)
              rw [wq_bd]
              refine wp_mono (wapp_spec (a := a) (b := rc) (c := f) (cv_cc.mp k.1).2 (by omega)) (fun x M3 u => ?_)
              rw [wq_some, u.1, I_add]
              exact ⟨rfl, CSt_upd k (cv_w k.1 u.2.1 (fun j hj => u.2.2 _ (by unfold sI; omega))) (CHist_congr k.2.1 (fun i hi => u.2.2 i (by omega))) (fun i hi => u.2.2 i (by omega))⟩
            · unfold d_X9_wish
              simp only [lit_, neg_I]
              refine gn_t (robot_I ha M).2 c1 (gn_t (noRec_I h.1 hi hr) c2 (gd_t (isStart_I h.1 hi hf) c3 ?_))
              rw [goes_e, bd_some, wq_bd]
              have hR1 : RSt (mset M 147 (fun j => if 0 ≤ j ∧ j < 366 then M 144 j else M 147 j)) ((S, W), l, o, T) := RSt_fr h (fun i hi => by rw [mset_n (by omega)]) (fun j hj => by rw [mset_n (by decide)])
              refine wp_mono (grants_spec hi c1 c2.2 (f := f) (by omega) hR1.1 hR1.2.2.2.2) (fun x M1 q => ?_)
              obtain ⟨q1, q2, q3, q4⟩ := q
              obtain ⟨u1, u2⟩ := q1 k
              have hR2 := grf_S q4 q3 hR1 u2
              have e6 := (rv_n hR2.1).2.2.2.2.2.2.1
              have e147 : ∀ j, j < 366 → M1 147 j = M 144 j := fun j hj => by rw [q4.1 147 (by decide) (by decide) (by decide), mset_s, if_pos (by omega)]
              rw [u1]
              simp (disch := first | omega | (unfold sm; omega)) only [wq_bd, wq_some, wq_bnd, wq_ite, bnd_e, bd_some, lit_, neg_I, I_lt, I_le, I_eq, I_add, I_sub, I_mul, I_clamp, chk_I, wchk_I, I_succ, Int.toNat_natCast, Int.reduceToNat, b01, b01I, bd_ite, if_true, if_false, ite_self, reduceIte, Int.reduceLE, Int.reduceLT, Int.reduceAdd, Int.reduceSub, Int.reduceNeg, Nat.reduceEqDiff, Nat.reduceAdd, e6]
              rw [if_neg (by omega)]
              unfold d_X9_wish_B63
              simp only [lit_, neg_I]
              rw [comes_e, bd_some, wq_bd]
              have hR3 : RSt (mset M1 144 (fun j => if 0 ≤ j ∧ j < 366 then M1 147 j else M1 144 j)) ((S, W), l, o, T) := by
                refine RSt_upd hR2 ?_ (RHist_congr hR2.2.1 ?_ ?_) (fun j hj => ?_) ?_ ?_
                · rw [mset_s]
                  exact rv_congr hl h.1 (fun i hi => by rw [if_pos (by omega)]; exact e147 i hi)
                · rw [mset_n (by decide)]
                · rw [mset_n (by decide)]
                · rw [mset_n (by decide)]
                · rw [mset_n (by decide)]
                · rw [mset_n (by decide)]
              refine rpush hA hR3 (fun x M4 v v0 => ?_)
              rw [wq_bd]
              refine wp_mono (grants_spec hi c1 c2.2 (f := f) (by omega) v.1 v.2.2.2.2) (fun x M5 t => ?_)
              obtain ⟨t1, t2, t3, t4⟩ := t
              obtain ⟨s1, s2⟩ := t1 k
              have hR5 := grf_S t4 t3 v s2
              have e6' := (rv_n hR5.1).2.2.2.2.2.2.1
              rw [s1]
              simp (disch := first | omega | (unfold sm; omega)) only [wq_bd, wq_some, wq_bnd, wq_ite, bnd_e, bd_some, lit_, neg_I, I_lt, I_le, I_eq, I_add, I_sub, I_mul, I_clamp, chk_I, wchk_I, I_succ, Int.toNat_natCast, Int.reduceToNat, b01, b01I, bd_ite, if_true, if_false, ite_self, reduceIte, Int.reduceLE, Int.reduceLT, Int.reduceAdd, Int.reduceSub, Int.reduceNeg, Nat.reduceEqDiff, Nat.reduceAdd, e6']
              rw [show ((342 : Int) + 3 * (W.length : Int)).toNat = 342 + 3 * W.length by omega, show ((342 : Int) + 3 * (W.length : Int) + 1).toNat = 343 + 3 * W.length by omega, show ((342 : Int) + 3 * (W.length : Int) + 2).toNat = 344 + 3 * W.length by omega]
              have e6'' : (mup (mup (mup M5 144 (342 + 3 * W.length) (I a)) 144 (343 + 3 * W.length) (I rc)) 144 (344 + 3 * W.length) (I f)) 144 6 = I W.length := by
                rw [mup_s, upd_n (by omega), mup_s, upd_n (by omega), mup_s, upd_n (by omega)]
                exact e6'
              rw [e6'']
              simp (disch := first | omega | (unfold sm; omega)) only [wq_bd, wq_some, wq_bnd, wq_ite, bnd_e, bd_some, lit_, neg_I, I_lt, I_le, I_eq, I_add, I_sub, I_mul, I_clamp, chk_I, wchk_I, I_succ, Int.toNat_natCast, Int.reduceToNat, b01, b01I, bd_ite, if_true, if_false, ite_self, reduceIte, Int.reduceLE, Int.reduceLT, Int.reduceAdd, Int.reduceSub, Int.reduceNeg, Nat.reduceEqDiff, Nat.reduceAdd, mup_s, upd_s]
              refine ⟨trivial, RSt_upd hR5 ?_ (RHist_congr hR5.2.1 ?_ ?_) (fun j hj => ?_) ?_ ?_⟩
              · rw [mup_s, mup_s, mup_s, mup_s]
                exact rv_wadd hR5.1 (by omega) a rc f
              · rw [mup_n (by decide), mup_n (by decide), mup_n (by decide), mup_n (by decide)]
              · rw [mup_n (by decide), mup_n (by decide), mup_n (by decide), mup_n (by decide)]
              · rw [mup_n (by decide), mup_n (by decide), mup_n (by decide), mup_n (by decide)]
              · rw [mup_n (by decide), mup_n (by decide), mup_n (by decide), mup_n (by decide)]
              · rw [mup_n (by decide), mup_n (by decide), mup_n (by decide), mup_n (by decide)]
        · obtain ⟨g1, g2, g3, g4⟩ := fitS_b hi k
          refine ⟨I (S 5), ((grtS S a rc (fitS S a rc f), W), pushH l (S, W), o, T), AInv_push hA (SI_grt hi g1 c1 c2.2 ⟨g2, g3⟩), fun M h => cls _ M h (fun M1 hC hk => absurd hk k) (fun M1 hC _ => ?_), fun M h => ?_⟩
          · refine cpush hA hC (fun x M2 k => ?_)
            have e7 := (cv_n k.1).2.2.2.2.1
            have hc2 := (cv_set1 k.1 (S 7 + 1)).2.2.2.2.1
            have e5' : setS S 7 (S 7 + 1) 5 = S 5 := setS_n (by decide)
            rw [e7, I_add]
            refine wp_mono (app_spec hc2 (SI_7 hi _) (by rw [e5']; exact g1) a rc (fitS S a rc f)) (fun x M3 u => ?_)
            rw [e5'] at u
            exact ⟨u.1, CSt_upd k u.2.1 (CHist_congr k.2.1 (fun i hi => by rw [u.2.2 i (by omega), mup_n (by unfold sI; omega)])) (fun i hi => by rw [u.2.2 i (by omega), mup_n (by unfold sI; omega)])⟩
          · unfold d_X9_wish
            simp only [lit_, neg_I]
            refine gn_t (robot_I ha M).2 c1 (gn_t (noRec_I h.1 hi hr) c2 (gd_t (isStart_I h.1 hi hf) c3 ?_))
            rw [goes_e, bd_some, wq_bd]
            have hR1 : RSt (mset M 147 (fun j => if 0 ≤ j ∧ j < 366 then M 144 j else M 147 j)) ((S, W), l, o, T) := RSt_fr h (fun i hi => by rw [mset_n (by omega)]) (fun j hj => by rw [mset_n (by decide)])
            refine wp_mono (grants_spec hi c1 c2.2 (f := f) (by omega) hR1.1 hR1.2.2.2.2) (fun x M1 q => ?_)
            obtain ⟨q1, q2, q3, q4⟩ := q
            obtain ⟨u1, u2⟩ := q2 k
            have hR2 := grf_S q4 q3 hR1 u2
            have e147 : ∀ j, j < 366 → M1 147 j = M 144 j := fun j hj => by rw [q4.1 147 (by decide) (by decide) (by decide), mset_s, if_pos (by omega)]
            rw [u1]
            simp (disch := first | omega | (unfold sm; omega)) only [wq_bd, wq_some, wq_bnd, wq_ite, bnd_e, bd_some, lit_, neg_I, I_lt, I_le, I_eq, I_add, I_sub, I_mul, I_clamp, chk_I, wchk_I, I_succ, Int.toNat_natCast, Int.reduceToNat, b01, b01I, bd_ite, if_true, if_false, ite_self, reduceIte, Int.reduceLE, Int.reduceLT, Int.reduceAdd, Int.reduceSub, Int.reduceNeg, Nat.reduceEqDiff, Nat.reduceAdd]
            rw [if_neg (by omega)]
            unfold d_X9_wish_B63
            simp only [lit_, neg_I]
            rw [comes_e, bd_some, wq_bd]
            have hR3 : RSt (mset M1 144 (fun j => if 0 ≤ j ∧ j < 366 then M1 147 j else M1 144 j)) ((S, W), l, o, T) := by
              refine RSt_upd hR2 ?_ (RHist_congr hR2.2.1 ?_ ?_) (fun j hj => ?_) ?_ ?_
              · rw [mset_s]
                exact rv_congr hl h.1 (fun i hi => by rw [if_pos (by omega)]; exact e147 i hi)
              · rw [mset_n (by decide)]
              · rw [mset_n (by decide)]
              · rw [mset_n (by decide)]
              · rw [mset_n (by decide)]
              · rw [mset_n (by decide)]
            refine rpush hA hR3 (fun x M4 v v0 => ?_)
            rw [wq_bd]
            refine wp_mono (grants_spec hi c1 c2.2 (f := f) (by omega) v.1 v.2.2.2.2) (fun x M5 t => ?_)
            obtain ⟨t1, t2, t3, t4⟩ := t
            obtain ⟨s1, s2⟩ := t2 k
            have hR5 := grf_S t4 t3 v s2
            rw [s1]
            simp (disch := first | omega | (unfold sm; omega)) only [wq_bd, wq_some, wq_bnd, wq_ite, bnd_e, bd_some, lit_, neg_I, I_lt, I_le, I_eq, I_add, I_sub, I_mul, I_clamp, chk_I, wchk_I, I_succ, Int.toNat_natCast, Int.reduceToNat, b01, b01I, bd_ite, if_true, if_false, ite_self, reduceIte, Int.reduceLE, Int.reduceLT, Int.reduceAdd, Int.reduceSub, Int.reduceNeg, Nat.reduceEqDiff, Nat.reduceAdd]
            rw [if_neg (by omega)]
            exact ⟨trivial, hR5⟩
      · refine ⟨I (-2), ((S, W), l, o, T), hA, fun M h => ?_, fun M h => ?_⟩
        · unfold d_X8_wish
          simp only [lit_, neg_I]
          exact gd_t (robot_I ha M).1 c1 (gd_t (has4_I h.1 hi hr) c2 (gd_f (canStart_I h.1 hi hf) c3 (wp_some ⟨rfl, h⟩)))
        · unfold d_X9_wish
          simp only [lit_, neg_I]
          exact gn_t (robot_I ha M).2 c1 (gn_t (noRec_I h.1 hi hr) c2 (gd_f (isStart_I h.1 hi hf) c3 (wp_some ⟨rfl, h⟩)))
    · refine ⟨I (-1), ((S, W), l, o, T), hA, fun M h => ?_, fun M h => ?_⟩
      · unfold d_X8_wish
        simp only [lit_, neg_I]
        exact gd_t (robot_I ha M).1 c1 (gd_f (has4_I h.1 hi hr) c2 (wp_some ⟨rfl, h⟩))
      · unfold d_X9_wish
        simp only [lit_, neg_I]
        exact gn_t (robot_I ha M).2 c1 (gn_f (noRec_I h.1 hi hr) c2 (wp_some ⟨rfl, h⟩))
  · refine ⟨I (-1), ((S, W), l, o, T), hA, fun M h => ?_, fun M h => ?_⟩
    · unfold d_X8_wish
      simp only [lit_, neg_I]
      exact gd_f (robot_I ha M).1 c1 (wp_some ⟨rfl, h⟩)
    · unfold d_X9_wish
      simp only [lit_, neg_I]
      exact gn_f (robot_I ha M).2 c1 (wp_some ⟨rfl, h⟩)
/-! how many were granted matters to no forecast -/
def A7 (S S' : Nat → Int) : Prop := ∀ j, j ≠ 7 → S' j = S j
theorem kpP_7 {S S' : Nat → Int} (e : A7 S S') (ro f l bt : Int) : kpP S' ro f l bt = kpP S ro f l bt := by
  funext b
  unfold kpP lbS rcN
  rw [e (42 + 5 * b) (by omega), e (43 + 5 * b) (by omega), e (44 + 5 * b) (by omega), e (45 + 5 * b) (by omega), e (12 + 4 * (S (43 + 5 * b)).toNat) (by omega), e (13 + 4 * (S (43 + 5 * b)).toNat) (by omega)]
theorem meet_7 {S S' : Nat → Int} (e : A7 S S') (ro f l bt : Int) : meetS S' ro f l bt = meetS S ro f l bt := by
  unfold meetS
  rw [kpP_7 e, e 5 (by decide)]
theorem rl_7 {S S' : Nat → Int} (e : A7 S S') (out : Int) (ex : Bool) : rl S' out ex = rl S out ex := by
  have : inP S' out = inP S out := by
    funext b
    unfold inP
    rw [e (45 + 5 * b) (by omega)]
  unfold rl
  rw [this, e 5 (by decide)]
theorem ask_7 {S S' : Nat → Int} (e : A7 S S') (t : Int) : askS S' t = askS S t := by
  funext F b
  have er : rcN S' b = rcN S b := by unfold rcN; rw [e (43 + 5 * b) (by omega)]
  unfold askS askP askC askT
  rw [er, e (44 + 5 * b) (by omega), e (10 + 4 * rcN S b) (by omega), e (11 + 4 * rcN S b) (by omega), e (12 + 4 * rcN S b) (by omega)]
theorem run_7 {S S' : Nat → Int} (e : A7 S S') (ps : List Nat) : ∀ n, runS S' ps n = runS S ps n
  | 0 => by
    have : D0 S' = D0 S := by
      funext b
      unfold D0
      rw [e 5 (by decide), e (45 + 5 * b) (by omega), e (46 + 5 * b) (by omega)]
    unfold runS
    rw [this, e 1 (by decide)]
  | n + 1 => by
    show tickS S' ps (S' 0 + n + 1) (runS S' ps n) = tickS S ps (S 0 + n + 1) (runS S ps n)
    rw [run_7 e ps n, e 0 (by decide)]
    unfold tickS
    rw [ask_7 e, e 2 (by decide), e 3 (by decide)]
theorem spS_7 {S S' : Nat → Int} (e : A7 S S') (out : Int) (ex : Bool) (b : Nat) : spS S' out ex b = spS S out ex b := by
  unfold spS
  rw [rl_7 e, run_7 e]
theorem spR_7 {S S' : Nat → Int} (e : A7 S S') (self : Option Nat) (rc : Nat) (st : Int) (b : Nat) : spR S' self rc st b = spR S self rc st b := by
  unfold spR
  refine spS_7 (fun j hj => ?_) _ _ _
  cases self with
  | none =>
    show exS S' rc st j = exS S rc st j
    unfold exS setS
    split
    · rfl
    · split
      · rfl
      · exact e j hj
  | some k =>
    show setS S' (44 + 5 * k) st j = setS S (44 + 5 * k) st j
    unfold setS
    split
    · rfl
    · exact e j hj
theorem code_7 {S S' : Nat → Int} (e : A7 S S') (self : Option Nat) (ro : Int) (rc : Nat) (st : Int) : codeS S' self ro rc st = codeS S self ro rc st := by
  have h1 : othS S' self rc st = othS S self rc st := by
    unfold othS
    rw [e 5 (by decide)]
    congr 1
    funext b
    rw [spR_7 e, spS_7 e]
  unfold codeS lbS
  rw [meet_7 e, h1, spR_7 e, e (12 + 4 * rc) (by omega), e (13 + 4 * rc) (by omega)]
theorem firR_7 {S S' : Nat → Int} (e : A7 S S') (self : Option Nat) (ro : Int) (rc : Nat) : ∀ (d : Nat) (a : Int), firR S' self ro rc d a = firR S self ro rc d a
  | 0, _ => rfl
  | d + 1, a => by
    unfold firR
    rw [code_7 e, firR_7 e self ro rc d (a + 1)]
theorem fit_7 {S S' : Nat → Int} (e : A7 S S') (a : Int) (rc : Nat) (f : Int) : fitS S' a rc f = fitS S a rc f := by
  unfold fitS firS
  rw [firR_7 e, e 5 (by decide), e 0 (by decide)]
theorem A7_s (S : Nat → Int) (v : Int) : A7 S (setS S 7 v) := fun j hj => setS_n hj
/-! cancel -/
def tryS : Nat → (Nat → Int) → List Wi → Nat → (Nat → Int) × List Wi
  | 0, S, W, _ => (S, W)
  | d + 1, S, W, x => match W[x]? with
    | none => (S, W)
    | some w => if fitS S w.1 w.2.1.toNat w.2.2 = -5 then tryS d S W (x + 1) else tryS d (grtS S w.1 w.2.1 (fitS S w.1 w.2.1.toNat w.2.2)) (W.eraseIdx x) x
theorem try_inv : ∀ (d : Nat) (S : Nat → Int) (W : List Wi) (x : Nat), x + d = W.length → SInv (S, W) → SInv (tryS d S W x) ∧ (tryS d S W x).2.length ≤ W.length ∧ (tryS d S W x).1 7 = S 7 + (W.length - (tryS d S W x).2.length : Int)
  | 0, S, W, x, hx, hi => by
    refine ⟨hi, Nat.le_refl _, ?_⟩
    unfold tryS
    dsimp only
    omega
  | d + 1, S, W, x, hx, hi => by
    have hget : W[x]? = some W[x] := List.getElem?_eq_getElem (by omega)
    have hw := wi_ok hi (List.mem_of_getElem? hget)
    generalize W[x] = w at hget hw
    unfold tryS
    rw [hget]
    dsimp only
    by_cases c : fitS S w.1 w.2.1.toNat w.2.2 = -5
    · rw [if_pos c]
      exact try_inv d S W (x + 1) (by omega) hi
    · rw [if_neg c]
      obtain ⟨g1, g2, g3, -⟩ := fitS_b hi c
      have hlen : (W.eraseIdx x).length = W.length - 1 := List.length_eraseIdx_of_lt (by omega)
      have h8 := (si_n hi).2.2.2.2.2.2
      have hg := SI_grt hi (rc := w.2.1.toNat) g1 hw.1 (by omega) ⟨g2, g3⟩
      rw [show (w.2.1.toNat : Int) = w.2.1 by omega] at hg
      have hi2 := SI_W hg (W' := W.eraseIdx x) (by omega) (fun y hy => List.mem_of_mem_eraseIdx hy)
      obtain ⟨i1, i2, i3⟩ := try_inv d (grtS S w.1 w.2.1 (fitS S w.1 w.2.1.toNat w.2.2)) (W.eraseIdx x) x (by omega) hi2
      refine ⟨i1, by omega, ?_⟩
      rw [i3]
      have h5 := (si_n hi).2.2.2.2.2.1
      have e7 : grtS S w.1 w.2.1 (fitS S w.1 w.2.1.toNat w.2.2) 7 = S 7 + 1 := by
        unfold grtS
        rw [addS_o (by decide) (by rw [setS_n (by decide)]; omega), setS_s]
      rw [e7]
      omega
theorem rtry_L : ∀ (d n x : Nat) (S : Nat → Int) (W : List Wi) (M : Mem) (a : Int), x + d = W.length → d < n → SInv (S, W) → rv (M 144) (S, W) → scR M → wp (d_X9_cancel_L36 (fun v21 M22 => some (v21, M22)) n (I a) (I x) M) (fun r M1 => r = I (a + (W.length - (tryS d S W x).2.length : Int)) ∧ rv (M1 144) (tryS d S W x) ∧ scR M1 ∧ grf M M1)
  | 0, n + 1, x, S, W, M, a, hx, hn, hi, hr, hsc => by
    have h8 := (si_n hi).2.2.2.2.2.2
    have e6 := (rv_n hr).2.2.2.2.2.2.1
    rw [sd_X9_cancel_L36]
    unfold d_X9_cancel_L36_body
    simp only [lit_, neg_I]
    rw [wchk_I (by decide) (by decide) (by decide), I_clamp (by unfold sm; decide), show (6 : Int).toNat = 6 from rfl, e6, if_pos (by rw [I_le (by unfold sm; omega) (by unfold sm; omega)]; omega), wq_some]
    refine ⟨?_, hr, hsc, grf_q (rqf_r M)⟩
    unfold tryS
    dsimp only
    congr 1
    omega
  | d + 1, n + 1, x, S, W, M, a, hx, hn, hi, hr, hsc => by
    have h8 := (si_n hi).2.2.2.2.2.2
    have h0 := (si_n hi).1
    have e6 := (rv_n hr).2.2.2.2.2.2.1
    have hget : W[x]? = some W[x] := List.getElem?_eq_getElem (by omega)
    have hw := wi_ok hi (List.mem_of_getElem? hget)
    generalize W[x] = w at hget hw
    obtain ⟨o0, o1, o2⟩ := rofW hr h8 hget
    rw [sd_X9_cancel_L36]
    unfold d_X9_cancel_L36_body
    simp only [lit_, neg_I]
    rw [wchk_I (by decide) (by decide) (by decide), I_clamp (by unfold sm; decide), show (6 : Int).toNat = 6 from rfl, e6, if_neg (by rw [I_le (by unfold sm; omega) (by unfold sm; omega)]; omega), o0, bd_some, o1, bd_some, o2, bd_some, wq_bd]
    have hrc : w.2.1 = (w.2.1.toNat : Int) := by omega
    rw [hrc]
    refine wp_mono (grants_spec hi (a := w.1) (rc := w.2.1.toNat) (f := w.2.2) hw.1 (by omega) hw.2.2 hr hsc) (fun y M1 q => ?_)
    obtain ⟨q1, q2, q3, q4⟩ := q
    unfold tryS
    rw [hget]
    dsimp only
    by_cases c : fitS S w.1 w.2.1.toNat w.2.2 = -5
    · obtain ⟨y1, y2⟩ := q1 c
      rw [y1, if_pos rfl, if_pos c, wq_bnd]
      rw [I_add, I_succ]
      exact wp_mono (rtry_L d n (x + 1) S W M1 a (by omega) (by omega) hi y2 q3) (fun r M2 z => ⟨z.1, z.2.1, z.2.2.1, grf_t q4 z.2.2.2⟩)
    · obtain ⟨y1, y2⟩ := q2 c
      obtain ⟨g1, g2, g3, -⟩ := fitS_b hi c
      have h5 := (si_n hi).2.2.2.2.2.1
      have hlen : (W.eraseIdx x).length = W.length - 1 := List.length_eraseIdx_of_lt (by omega)
      have hg := SI_grt hi (rc := w.2.1.toNat) g1 hw.1 (by omega) ⟨g2, g3⟩
      rw [← hrc] at hg y2
      have hi2 := SI_W hg (W' := W.eraseIdx x) (by omega) (fun y hy => List.mem_of_mem_eraseIdx hy)
      rw [y1, if_neg c]
      refine wif_f (by omega) (by omega) (by omega) ?_
      rw [wq_bd]
      refine wp_mono (leaves_spec y2 h8 (by omega)) (fun z M2 u => ?_)
      obtain ⟨u1, u2⟩ := u
      rw [wq_bnd, I_add]
      have hsc2 : scR M2 := scR_congr q3 (fun j h1 h2 => by rw [u2 143 (by decide)])
      refine wp_mono (rtry_L d n x _ (W.eraseIdx x) M2 (a + 1) (by omega) (by omega) hi2 u1 hsc2) (fun r M3 z => ⟨?_, z.2.1, z.2.2.1, grf_t q4 (grf_t ⟨fun i i0 i1 i2 => u2 i i1, fun j hj => by rw [u2 143 (by decide)]⟩ z.2.2.2)⟩)
      rw [z.1]
      congr 1
      omega
  | _, 0, _, _, _, _, _, _, hn, _, _, _ => absurd hn (by omega)
theorem add_7 {S : Nat → Int} {z a rc st : Int} : addS (setS S 7 z) a rc st = setS (grtS S a rc st) 7 z := by
  funext j
  unfold grtS addS
  rw [setS_n (show 5 ≠ 7 by decide), setS_n (show 5 ≠ 7 by decide)]
  by_cases h : j = 7
  · subst h
    rw [setS_s, setS_n (by decide), setS_n (by omega), setS_n (by omega), setS_n (by omega), setS_n (by omega), setS_n (by omega), setS_s]
  · rw [setS_n h]
    unfold setS
    simp only [h, if_false]
def cqf' (M M1 : Mem) : Prop := ∀ i, (16 ≤ i ∧ i < 112) ∨ 134 ≤ i → M1 i = M i
/-- between two tries -/
def CQ (M M1 : Mem) : Prop := ∀ i, i < 112 ∨ 134 ≤ i → M1 i = M i
theorem ctry_L {z : Int} {K : Nat} (hK : K ≤ 8) {kx : Mem → Ans} {Q : Int32 → Mem → Prop} : ∀ (d n x : Nat) (S : Nat → Int) (W : List Wi) (M : Mem), x + d = W.length → d ≤ K → d < n → SInv (S, W) → cv 0 M (setS S 7 z, W) → (∀ M1, cv 0 M1 (setS (tryS d S W x).1 7 z, (tryS d S W x).2) → cqf' M M1 → wp (kx M1) Q) → wp (d_X8_tryWishes_L18 (I K) kx n (I x) (I (K - d : Int)) M) Q
  | 0, n + 1, x, S, W, M, hx, hd, hn, hi, hc, k => by
    rw [sd_X8_tryWishes_L18]
    unfold d_X8_tryWishes_L18_body
    simp (disch := first | omega | (unfold sm; omega)) only [wq_bd, wq_some, wq_bnd, wq_ite, bnd_e, bd_some, lit_, neg_I, I_lt, I_le, I_eq, I_add, I_sub, I_mul, I_clamp, chk_I, wchk_I, I_succ, Int.toNat_natCast, Int.reduceToNat, b01, b01I, bd_ite, if_true, if_false, ite_self, reduceIte, Int.reduceLE, Int.reduceLT, Int.reduceAdd, Int.reduceSub, Int.reduceNeg, Nat.reduceEqDiff, Nat.reduceAdd]
    rw [if_pos (by omega)]
    exact k M hc (fun _ _ => rfl)
  | d + 1, n + 1, x, S, W, M, hx, hd, hn, hi, hc, k => by
    obtain ⟨h0, h1, h2, h3, h4, h5, h8⟩ := si_n hi
    have hiz := SI_7 hi z
    have hget : W[x]? = some W[x] := List.getElem?_eq_getElem (by omega)
    have hw := wi_ok hi (List.mem_of_getElem? hget)
    have hlen : (W.eraseIdx x).length = W.length - 1 := List.length_eraseIdx_of_lt (by omega)
    generalize W[x] = w at hget hw
    have hcc := cv_cc.mp hc
    obtain ⟨w13, w14, w15⟩ := hcc.2.2 x w hget
    have e5 := (cv_n hc).2.2.2.2.2.2.2.2.1
    rw [setS_n (show 5 ≠ 7 by decide)] at e5
    have hrc : w.2.1 = (w.2.1.toNat : Int) := by omega
    rw [hrc] at w14
    have key : tryS (d + 1) S W x = if fitS S w.1 w.2.1.toNat w.2.2 = -5 then tryS d S W (x + 1) else tryS d (grtS S w.1 w.2.1 (fitS S w.1 w.2.1.toNat w.2.2)) (W.eraseIdx x) x := by
      show (match W[x]? with | none => (S, W) | some w => if fitS S w.1 w.2.1.toNat w.2.2 = -5 then tryS d S W (x + 1) else tryS d (grtS S w.1 w.2.1 (fitS S w.1 w.2.1.toNat w.2.2)) (W.eraseIdx x) x) = _
      rw [hget]
    rw [key] at k
    have eK : ((K : Int) - ((d + 1 : Nat) : Int) + 1) = (K : Int) - (d : Int) := by omega
    rw [sd_X8_tryWishes_L18]
    unfold d_X8_tryWishes_L18_body
    simp only [lit_, neg_I]
    rw [if_neg (by rw [I_le (by unfold sm; omega) (by unfold sm; omega)]; omega)]
    refine gd_t (has7_I hcc.2 h8 (by omega)) ⟨by omega, by omega⟩ ?_
    rw [wchk_I (by omega) (by omega) (by omega), wq_bnd, wchk_I (by omega) (by omega) (by omega), wq_bnd, wchk_I (by omega) (by omega) (by omega), wq_bnd, I_clamp (by unfold sm; omega), Int.toNat_natCast, w13, w14, w15, e5]
    -- not granted
    have no : fitS S w.1 w.2.1.toNat w.2.2 = -5 → ∀ M1, CQ M M1 → wp (d_X8_tryWishes_B120 kx (d_X8_tryWishes_L18 (I K) kx n) (I K) (I x) (I (K - ((d + 1 : Nat) : Int))) (I w.1) (I (w.2.1.toNat : Int)) (I (-5)) M1) Q := by
      intro c M1 hq
      rw [if_pos c] at k
      unfold d_X8_tryWishes_B120 d_X8_tryWishes_B157
      simp only [lit_, neg_I]
      rw [if_pos trivial, wq_bnd, wq_bnd, I_add, I_add, I_succ, eK]
      refine ctry_L hK d n (x + 1) S W M1 (by omega) (by omega) (by omega) hi (cv_congr hc (fun j hj => hq _ (by unfold sI; omega))) (fun M2 y1 y2 => k M2 y1 (fun i hi => (y2 i hi).trans (hq i (by omega))))
    by_cases c60 : S 5 = 60
    · rw [if_pos (by rw [I_le (by unfold sm; omega) (by unfold sm; omega)]; omega)]
      unfold d_X8_tryWishes_B76
      rw [if_pos (show (I 0 : Int32) = 0 from rfl)]
      exact no (by unfold fitS; rw [if_pos c60]) M (fun _ _ => rfl)
    · rw [if_neg (by rw [I_le (by unfold sm; omega) (by unfold sm; omega)]; omega)]
      unfold d_X8_tryWishes_B76
      rw [if_neg (by decide), e5, show (20 : Int32) = I 20 from rfl, I_add, wq_bd]
      have hca : CaOk (setS S 7 z) none w.2.1.toNat := ⟨by rw [setS_n (show 4 ≠ 7 by decide)]; omega, trivial⟩
      have hff := ff_spec hiz hca (ro := w.1) (by omega) (fr := w.2.2) (to := w.2.2 + 20) (by omega) (by omega) hc
      have ecb : cbk (setS S 7 z) none = S 5 := setS_n (by decide)
      rw [ecb] at hff
      refine wp_mono hff (fun y M1 q => ?_)
      have ef : fitS S w.1 w.2.1.toNat w.2.2 = firS (setS S 7 z) none w.1 w.2.1.toNat w.2.2 (w.2.2 + 20) := by
        rw [← fit_7 (A7_s S z)]
        unfold fitS
        rw [if_neg (by rw [setS_n (by decide)]; exact c60)]
      rw [q.1, ← ef]
      by_cases c : fitS S w.1 w.2.1.toNat w.2.2 = -5
      · rw [c]
        exact no c M1 (fun i hi => q.2 i (by omega))
      · obtain ⟨g1, g2, g3, -⟩ := fitS_b hi c
        have hg := SI_grt hi (rc := w.2.1.toNat) g1 hw.1 (by omega) ⟨g2, g3⟩
        rw [← hrc] at hg
        have hi2 := SI_W hg (W' := W.eraseIdx x) (by omega) (fun y hy => List.mem_of_mem_eraseIdx hy)
        rw [if_neg c] at k
        have hc1 := cqf_v q.2 hc
        unfold d_X8_tryWishes_B120
        rw [if_neg (by rw [show (-5 : Int32) = I (-5) from rfl, I_eq (by unfold sm; omega) (by unfold sm; omega)]; exact c), wq_bd]
        refine wp_mono (take_spec (cv_cc.mp hc1).2 h8 (by omega)) (fun y2 M2 t => ?_)
        have hc2 : cv 0 M2 (setS S 7 z, W.eraseIdx x) := cv_w hc1 t.1 (fun j hj => t.2 _ (by unfold sI; omega))
        have hi3 := SI_W hiz (W' := W.eraseIdx x) (by omega) (fun y hy => List.mem_of_mem_eraseIdx hy)
        rw [wq_bd]
        refine wp_mono (app_spec hc2 hi3 (by rw [setS_n (by decide)]; exact g1) w.1 (w.2.1.toNat : Int) (fitS S w.1 w.2.1.toNat w.2.2)) (fun y3 M3 u => ?_)
        obtain ⟨-, u2, u3⟩ := u
        rw [add_7, ← hrc] at u2
        unfold d_X8_tryWishes_B157
        simp only [lit_, neg_I]
        rw [wq_bnd, I_add, eK]
        refine ctry_L hK d n x _ (W.eraseIdx x) M3 (by omega) (by omega) (by omega) hi2 u2 (fun M4 y1 y2 => k M4 y1 (fun i hi => (y2 i hi).trans ((u3 i (by omega)).trans ((t.2 i (by omega)).trans (q.2 i (by omega))))))
  | _, 0, _, _, _, _, _, _, hn, _, _, _ => absurd hn (by omega)
theorem ctry_spec {S : Nat → Int} {W : List Wi} (hi : SInv (S, W)) {M : Mem} (hc : cv 0 M (S, W)) : wp (d_X8_tryWishes M) (fun r M1 => r = I (W.length - (tryS W.length S W 0).2.length : Int) ∧ cv 0 M1 (tryS W.length S W 0) ∧ cqf' M M1) := by
  have h8 := (si_n hi).2.2.2.2.2.2
  have e6 := (cv_n hc).2.2.2.2.2.2.2.2.2
  obtain ⟨t1, t2, t3⟩ := try_inv W.length S W 0 (by omega) hi
  have eS : setS S 7 (S 7) = S := by
    funext j
    unfold setS
    split
    · rename_i h; rw [h]
    · rfl
  unfold d_X8_tryWishes
  rw [e6]
  have := ctry_L (z := S 7) (K := W.length) h8 (kx := fun M14 => d_X8_tryWishes_B163 (I W.length) M14) (Q := fun r M1 => r = I (W.length - (tryS W.length S W 0).2.length : Int) ∧ cv 0 M1 (tryS W.length S W 0) ∧ cqf' M M1) W.length fuelN 0 S W M (by omega) (Nat.le_refl _) (by unfold fuelN; omega) hi (by rw [eS]; exact hc) (fun M1 y1 y2 => ?_)
  · rw [show ((W.length : Int) - (W.length : Int)) = ((0 : Nat) : Int) by omega] at this
    exact this
  · generalize tryS W.length S W 0 = P at *
    obtain ⟨P1, P2⟩ := P
    dsimp only at *
    have e12 := (cv_n y1).2.2.2.2.2.2.2.2.2
    have e7 := (cv_n y1).2.2.2.2.1
    rw [setS_s] at e7
    unfold d_X8_tryWishes_B163
    rw [e12, e7, wq_bnd, wq_bnd, wq_some, I_sub, I_add]
    have hc2 := (cv_set1 y1 (S 7 + (W.length - P2.length : Int))).2.2.2.2.1
    have eP : setS (setS P1 7 (S 7)) 7 (S 7 + (W.length - P2.length : Int)) = P1 := by
      funext j
      unfold setS
      by_cases h : j = 7
      · rw [if_pos h, h, t3]
      · rw [if_neg h, if_neg h]
    rw [eP] at hc2
    exact ⟨rfl, hc2, fun i hi => by rw [mup_n (by unfold sI; omega), y2 i hi]⟩
theorem b_cancel (p : Int32) : Both (d_X8_cancel p) (d_X9_cancel p) := by
  obtain ⟨a, ha, rfl⟩ := of_I p
  intro A hA
  obtain ⟨⟨S, W⟩, l, o, T⟩ := A
  have hi : SInv (S, W) := hA.1
  obtain ⟨h0, h1, h2, h3, h4, h5, hl⟩ := si_n hi
  by_cases c : 0 ≤ a ∧ a < S 5
  · obtain ⟨b, rfl⟩ : ∃ q : Nat, a = q := ⟨a.toNat, by omega⟩
    obtain ⟨k1, k2, k3, k4, -, -⟩ := si_b hi c.2
    by_cases c0 : S (45 + 5 * b) ≤ 1
    · have hi2 := SI_cn hi c.2
      obtain ⟨t1, t2, t3⟩ := try_inv W.length (setS S (45 + 5 * b) 4) W 0 (by omega) hi2
      refine ⟨I (W.length - (tryS W.length (setS S (45 + 5 * b) 4) W 0).2.length : Int), (tryS W.length (setS S (45 + 5 * b) 4) W 0, pushH l (S, W), o, T), AInv_push hA t1, fun M h => ?_, fun M h => ?_⟩
      · unfold d_X8_cancel
        simp only [lit_, neg_I]
        refine gd_t (has0_I h.1 hi ha) c (gd_t (isOpen_I h.1 hi c.2) c0 ?_)
        rw [wq_bd]
        refine cpush hA h (fun x M1 k => ?_)
        rw [wchk_I (by omega) (by omega) (by omega), wq_bnd, I_clamp (by unfold sm; omega), Int.toNat_natCast, wq_bd]
        have hc1 := (cv_setb k.1 (b := b) (by omega) 4).2.2.2.1
        refine wp_mono (ctry_spec hi2 hc1) (fun x M2 q => ?_)
        rw [wq_some]
        refine ⟨q.1, CSt_upd k q.2.1 (CHist_congr k.2.1 (fun i hi => ?_)) (fun i hi => ?_)⟩
        · rw [q.2.2 i (by omega), mup_n (by unfold sI; omega)]
        · rw [q.2.2 i (by omega), mup_n (by unfold sI; omega)]
      · obtain ⟨q0, q1, q2, q3, q4⟩ := rof0 h.1 (b := b) (by omega)
        have ho : d_X9_isOpen (I b) M = some ((if S (45 + 5 * b) ≤ 1 then 1 else 0), M) := by
          unfold d_X9_isOpen
          simp only [lit_, neg_I]
          rw [q3, bd_some, if_neg (by rw [I_lt (by unfold sm; omega) (by unfold sm; omega)]; omega), if_pos c0]
        unfold d_X9_cancel
        simp only [lit_, neg_I]
        refine gn_t (noBk_I h.1 hi ha) c (gd_t ho c0 ?_)
        rw [wq_bd]
        refine rpush hA h (fun x M1 k k0 => ?_)
        rw [(puts_e (b := b) (by omega) _).2.2.2.1, bd_some]
        have hv := rv_set k.1 (i := 45 + 5 * b) (by omega) (by omega) 4
        have hk : RSt (mup M1 144 (45 + 5 * b) (I 4)) ((setS S (45 + 5 * b) 4, W), pushH l (S, W), o, T) := by
          refine RSt_upd k (by rw [mup_s]; exact hv) (RHist_congr k.2.1 ?_ ?_) (fun j hj => ?_) ?_ ?_ <;> rw [mup_n (by decide)]
        rw [show (I 0 : Int32) = I ((0 : Nat) : Int) from rfl]
        refine wp_mono (rtry_L W.length fuelN 0 _ W _ ((0 : Nat) : Int) (by omega) (by unfold fuelN; omega) hi2 hk.1 hk.2.2.2.2) (fun r M2 q => ?_)
        obtain ⟨q1, q2, q3, q4⟩ := q
        refine ⟨?_, grf_S q4 q3 hk q2⟩
        rw [q1]
        congr 1
        omega
    · refine ⟨I (-4), ((S, W), l, o, T), hA, fun M h => ?_, fun M h => ?_⟩
      · unfold d_X8_cancel
        simp only [lit_, neg_I]
        exact gd_t (has0_I h.1 hi ha) c (gd_f (isOpen_I h.1 hi c.2) c0 (wp_some ⟨rfl, h⟩))
      · obtain ⟨q0, q1, q2, q3, q4⟩ := rof0 h.1 (b := b) (by omega)
        have ho : d_X9_isOpen (I b) M = some ((if S (45 + 5 * b) ≤ 1 then 1 else 0), M) := by
          unfold d_X9_isOpen
          simp only [lit_, neg_I]
          rw [q3, bd_some, if_pos (by rw [I_lt (by unfold sm; omega) (by unfold sm; omega)]; omega), if_neg c0]
        unfold d_X9_cancel
        simp only [lit_, neg_I]
        exact gn_t (noBk_I h.1 hi ha) c (gd_f ho c0 (wp_some ⟨rfl, h⟩))
  · refine ⟨I (-1), ((S, W), l, o, T), hA, fun M h => ?_, fun M h => ?_⟩
    · unfold d_X8_cancel
      simp only [lit_, neg_I]
      exact gd_f (has0_I h.1 hi ha) c (wp_some ⟨rfl, h⟩)
    · unfold d_X9_cancel
      simp only [lit_, neg_I]
      exact gn_f (noBk_I h.1 hi ha) c (wp_some ⟨rfl, h⟩)
