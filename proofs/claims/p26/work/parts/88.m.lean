/-! what is told -/
theorem b_recipe (p w : Int32) : Both (d_X8_recipe p w) (d_X9_recipe p w) := by
  obtain ⟨a, ha, rfl⟩ := of_I p
  obtain ⟨v, hv, rfl⟩ := of_I w
  refine Both_q (fun S W l o T hA => ?_)
  have hi : SInv (S, W) := hA.1
  obtain ⟨h0, h1, h2, h3, h4, h5, hl⟩ := si_n hi
  by_cases c : 0 ≤ a ∧ a < S 4
  · obtain ⟨q, rfl⟩ : ∃ q : Nat, a = q := ⟨a.toNat, by omega⟩
    have cls : ∀ M, CSt M ((S, W), l, o, T) → d_X8_recipe (I q) (I v) M = some (I (if v = 0 then S (10 + 4 * q) else if v = 1 then S (11 + 4 * q) else if v = 2 then S (12 + 4 * q) else if v = 3 then S (13 + 4 * q) else if v = 4 then cntS S (fun b => decide (S (43 + 5 * b) = (q : Int) ∧ S (45 + 5 * b) = 2)) else -2), M) := by
      intro M h
      obtain ⟨q0, q1, q2, q3⟩ := cv_r h.1 (r := q) (by omega)
      unfold d_X8_recipe
      simp (disch := first | omega | (unfold sm; omega)) only [wq_bd, wq_some, wq_bnd, wq_ite, bnd_e, bd_some, lit_, neg_I, I_lt, I_le, I_eq, I_add, I_sub, I_mul, I_clamp, chk_I, wchk_I, I_succ, Int.toNat_natCast, Int.reduceToNat, b01, b01I, bd_ite, if_true, if_false, ite_self, reduceIte, Int.reduceLE, Int.reduceLT, Int.reduceAdd, Int.reduceSub, Int.reduceNeg, Nat.reduceEqDiff, Nat.reduceAdd, has4_I h.1 hi, q0, q1, q2, q3, crc_I h.1 hi]
      rw [if_neg (fun hh => hh c)]
      simp only [← ite_I, apply_ite (fun z : Int32 => some (z, M))]
    have ref : ∀ M, RSt M ((S, W), l, o, T) → d_X9_recipe (I q) (I v) M = some (I (if v = 0 then S (10 + 4 * q) else if v = 1 then S (11 + 4 * q) else if v = 2 then S (12 + 4 * q) else if v = 3 then S (13 + 4 * q) else if v = 4 then cntS S (fun b => decide (S (43 + 5 * b) = (q : Int) ∧ S (45 + 5 * b) = 2)) else -2), M) := by
      intro M h
      obtain ⟨q0, q1, q2, q3⟩ := rofR h.1 (r := q) (by omega)
      unfold d_X9_recipe
      simp (disch := first | omega | (unfold sm; omega)) only [wq_bd, wq_some, wq_bnd, wq_ite, bnd_e, bd_some, lit_, neg_I, I_lt, I_le, I_eq, I_add, I_sub, I_mul, I_clamp, chk_I, wchk_I, I_succ, Int.toNat_natCast, Int.reduceToNat, b01, b01I, bd_ite, if_true, if_false, ite_self, reduceIte, Int.reduceLE, Int.reduceLT, Int.reduceAdd, Int.reduceSub, Int.reduceNeg, Nat.reduceEqDiff, Nat.reduceAdd, noRec_I h.1 hi, b10, b10I, rin_I]
      rw [if_pos c]
      by_cases w : 0 ≤ v ∧ v ≤ 3
      · rw [if_neg (fun hh => hh w)]
        rcases (show v = 0 ∨ v = 1 ∨ v = 2 ∨ v = 3 by omega) with rfl | rfl | rfl | rfl
        · rw [q0]; rfl
        · rw [q1]; rfl
        · rw [q2]; rfl
        · rw [q3]; rfl
      · rw [if_pos w, if_neg (show ¬ v = 0 by omega), if_neg (show ¬ v = 1 by omega), if_neg (show ¬ v = 2 by omega), if_neg (show ¬ v = 3 by omega)]
        by_cases w4 : v = 4
        · rw [if_pos w4, if_pos w4, rcnt_I h.1 hi (by omega) (by omega) (by omega) (by omega), bd_some]
          congr 3
          refine cnt_congr (fun b hb => decide_eq_decide.mpr ?_)
          omega
        · rw [if_neg w4, if_neg w4]
    exact ⟨_, fun M h => wp_eq (cls M h) ⟨rfl, h⟩, fun M h => wp_eq (ref M h) ⟨rfl, h⟩⟩
  · refine ⟨I (-1), fun M h => ?_, fun M h => ?_⟩
    · unfold d_X8_recipe
      simp (disch := first | omega | (unfold sm; omega)) only [wq_bd, wq_some, wq_bnd, wq_ite, bnd_e, bd_some, lit_, neg_I, I_lt, I_le, I_eq, I_add, I_sub, I_mul, I_clamp, chk_I, wchk_I, I_succ, Int.toNat_natCast, Int.reduceToNat, b01, b01I, bd_ite, if_true, if_false, ite_self, reduceIte, Int.reduceLE, Int.reduceLT, Int.reduceAdd, Int.reduceSub, Int.reduceNeg, Nat.reduceEqDiff, Nat.reduceAdd, has4_I h.1 hi]
      rw [if_pos c]
      exact ⟨trivial, h⟩
    · unfold d_X9_recipe
      simp (disch := first | omega | (unfold sm; omega)) only [wq_bd, wq_some, wq_bnd, wq_ite, bnd_e, bd_some, lit_, neg_I, I_lt, I_le, I_eq, I_add, I_sub, I_mul, I_clamp, chk_I, wchk_I, I_succ, Int.toNat_natCast, Int.reduceToNat, b01, b01I, bd_ite, if_true, if_false, ite_self, reduceIte, Int.reduceLE, Int.reduceLT, Int.reduceAdd, Int.reduceSub, Int.reduceNeg, Nat.reduceEqDiff, Nat.reduceAdd, noRec_I h.1 hi, b10, b10I]
      rw [if_neg c]
      exact ⟨trivial, h⟩
theorem b_robot (p w : Int32) : Both (d_X8_robot p w) (d_X9_robot p w) := by
  obtain ⟨a, ha, rfl⟩ := of_I p
  obtain ⟨v, hv, rfl⟩ := of_I w
  refine Both_q (fun S W l o T hA => ?_)
  have hi : SInv (S, W) := hA.1
  obtain ⟨h0, h1, h2, h3, h4, h5, hl⟩ := si_n hi
  by_cases c : 0 ≤ a ∧ a ≤ 5
  · have cls : ∀ M, CSt M ((S, W), l, o, T) → d_X8_robot (I a) (I v) M = some (I (if v = 0 then cntS S (fun b => decide (S (42 + 5 * b) = a ∧ S (45 + 5 * b) = 0)) + cntS S (fun b => decide (S (42 + 5 * b) = a ∧ S (45 + 5 * b) = 1)) else if v = 1 then cntS S (fun b => decide (S (42 + 5 * b) = a ∧ S (45 + 5 * b) = 2)) else if v = 2 then (if busyS S a (S 0) = true then 1 else 0) else if v = 3 then freeS S a else -2), M) := by
      intro M h
      have e0 := (cv_n h.1).1
      unfold d_X8_robot
      simp (disch := first | omega | (unfold sm; omega)) only [wq_bd, wq_some, wq_bnd, wq_ite, bnd_e, bd_some, lit_, neg_I, I_lt, I_le, I_eq, I_add, I_sub, I_mul, I_clamp, chk_I, wchk_I, I_succ, Int.toNat_natCast, Int.reduceToNat, b01, b01I, bd_ite, if_true, if_false, ite_self, reduceIte, Int.reduceLE, Int.reduceLT, Int.reduceAdd, Int.reduceSub, Int.reduceNeg, Nat.reduceEqDiff, Nat.reduceAdd, (robot_I ha M).1, e0, cro_I h.1 hi, busy_I h.1 hi, free_I h.1 hi ha]
      rw [if_neg (fun hh => hh c)]
      by_cases v0 : v = 0
      · rw [if_pos v0, if_pos v0]
      · rw [if_neg v0, if_neg v0]
        by_cases v1 : v = 1
        · rw [if_pos v1, if_pos v1]
        · rw [if_neg v1, if_neg v1]
          by_cases v2 : v = 2
          · rw [if_pos v2, if_pos v2]
            cases busyS S a (S 0) <;> rfl
          · rw [if_neg v2, if_neg v2]
            by_cases v3 : v = 3
            · rw [if_pos v3, if_pos v3]
            · rw [if_neg v3, if_neg v3]
    have hsum : cntS S (fun b => decide (S (42 + 5 * b) = a ∧ S (45 + 5 * b) = 0)) + cntS S (fun b => decide (S (42 + 5 * b) = a ∧ S (45 + 5 * b) = 1)) = cntS S (fun b => decide ((a < 0 ∨ S (42 + 5 * b) = a) ∧ ((-1 : Int) < 0 ∨ S (43 + 5 * b) = -1) ∧ 0 ≤ S (45 + 5 * b) ∧ S (45 + 5 * b) ≤ 1)) := by
      unfold cntS
      have e : ∀ (L : List Nat), L.countP (fun b => decide (S (42 + 5 * b) = a ∧ S (45 + 5 * b) = 0)) + L.countP (fun b => decide (S (42 + 5 * b) = a ∧ S (45 + 5 * b) = 1)) = L.countP (fun b => decide ((a < 0 ∨ S (42 + 5 * b) = a) ∧ ((-1 : Int) < 0 ∨ S (43 + 5 * b) = -1) ∧ 0 ≤ S (45 + 5 * b) ∧ S (45 + 5 * b) ≤ 1)) := by
        intro L
        induction L with
        | nil => rfl
        | cons b L ih =>
          rw [List.countP_cons, List.countP_cons, List.countP_cons, ← ih]
          by_cases z0 : S (42 + 5 * b) = a ∧ S (45 + 5 * b) = 0
          · rw [if_pos (decide_eq_true z0), if_neg (by rw [decide_eq_false (by omega)]; decide), if_pos (decide_eq_true (by omega))]; omega
          · rw [if_neg (by rw [decide_eq_false z0]; decide)]
            by_cases z1 : S (42 + 5 * b) = a ∧ S (45 + 5 * b) = 1
            · rw [if_pos (decide_eq_true z1), if_pos (decide_eq_true (by omega))]; omega
            · rw [if_neg (by rw [decide_eq_false z1]; decide), if_neg (by rw [decide_eq_false (by omega)]; decide)]; omega
      have := e (List.range' 0 (S 5).toNat)
      omega
    have ref : ∀ M, RSt M ((S, W), l, o, T) → d_X9_robot (I a) (I v) M = some (I (if v = 0 then cntS S (fun b => decide (S (42 + 5 * b) = a ∧ S (45 + 5 * b) = 0)) + cntS S (fun b => decide (S (42 + 5 * b) = a ∧ S (45 + 5 * b) = 1)) else if v = 1 then cntS S (fun b => decide (S (42 + 5 * b) = a ∧ S (45 + 5 * b) = 2)) else if v = 2 then (if busyS S a (S 0) = true then 1 else 0) else if v = 3 then freeS S a else -2), M) := by
      intro M h
      have e0 := (rv_n h.1).1
      have hfr := rfree_L h.1 hi ha (kx := fun v M => some (v, M)) 89 fuelN 0 (by omega) (by unfold fuelN; omega)
      rw [show S 0 + ((0 : Nat) : Int) = S 0 by omega] at hfr
      unfold d_X9_robot
      simp (disch := first | omega | (unfold sm; omega)) only [wq_bd, wq_some, wq_bnd, wq_ite, bnd_e, bd_some, lit_, neg_I, I_lt, I_le, I_eq, I_add, I_sub, I_mul, I_clamp, chk_I, wchk_I, I_succ, Int.toNat_natCast, Int.reduceToNat, b01, b01I, bd_ite, if_true, if_false, ite_self, reduceIte, Int.reduceLE, Int.reduceLT, Int.reduceAdd, Int.reduceSub, Int.reduceNeg, Nat.reduceEqDiff, Nat.reduceAdd, (robot_I ha M).2, b10, b10I, e0, rcnt_I h.1 hi, keep_I h.1 hi ha, kbusy_I hi, hfr]
      rw [if_pos c]
      by_cases v0 : v = 0
      · rw [if_pos v0, if_pos v0, hsum]
        congr 3
        refine cnt_congr (fun b hb => decide_eq_decide.mpr ?_)
        rw [true_or, true_and]
        omega
      · rw [if_neg v0, if_neg v0]
        by_cases v1 : v = 1
        · rw [if_pos v1, if_pos v1]
          congr 3
          refine cnt_congr (fun b hb => decide_eq_decide.mpr ?_)
          rw [true_or, true_and]
          omega
        · rw [if_neg v1, if_neg v1]
          by_cases v2 : v = 2
          · rw [if_pos v2, if_pos v2]
            cases busyS S a (S 0) <;> rfl
          · rw [if_neg v2, if_neg v2]
            by_cases v3 : v = 3
            · rw [if_pos v3, if_pos v3]
              rfl
            · rw [if_neg v3, if_neg v3]
    exact ⟨_, fun M h => wp_eq (cls M h) ⟨rfl, h⟩, fun M h => wp_eq (ref M h) ⟨rfl, h⟩⟩
  · refine ⟨I (-1), fun M h => ?_, fun M h => ?_⟩
    · unfold d_X8_robot
      simp (disch := first | omega | (unfold sm; omega)) only [wq_bd, wq_some, wq_bnd, wq_ite, bnd_e, bd_some, lit_, neg_I, I_lt, I_le, I_eq, I_add, I_sub, I_mul, I_clamp, chk_I, wchk_I, I_succ, Int.toNat_natCast, Int.reduceToNat, b01, b01I, bd_ite, if_true, if_false, ite_self, reduceIte, Int.reduceLE, Int.reduceLT, Int.reduceAdd, Int.reduceSub, Int.reduceNeg, Nat.reduceEqDiff, Nat.reduceAdd, (robot_I ha M).1]
      rw [if_pos c]
      exact ⟨trivial, h⟩
    · unfold d_X9_robot
      simp (disch := first | omega | (unfold sm; omega)) only [wq_bd, wq_some, wq_bnd, wq_ite, bnd_e, bd_some, lit_, neg_I, I_lt, I_le, I_eq, I_add, I_sub, I_mul, I_clamp, chk_I, wchk_I, I_succ, Int.toNat_natCast, Int.reduceToNat, b01, b01I, bd_ite, if_true, if_false, ite_self, reduceIte, Int.reduceLE, Int.reduceLT, Int.reduceAdd, Int.reduceSub, Int.reduceNeg, Nat.reduceEqDiff, Nat.reduceAdd, (robot_I ha M).2, b10, b10I]
      rw [if_neg c]
      exact ⟨trivial, h⟩
/-! why, earliest, wishTold -/
theorem oth_lt {S : Nat → Int} {self : Option Nat} {rc : Nat} {st : Int} {b : Nat} (h : othS S self rc st = some b) : (b : Int) < S 5 := by
  have := List.mem_range'_1.mp (List.mem_of_find?_eq_some h)
  omega
theorem oN_i {S : Nat → Int} {ro f l bt : Int} (h : (meetS S ro f l bt).isSome = true) (z w : Int) : oN z (meetS S ro f l bt) = oN w (meetS S ro f l bt) := by
  cases hm : meetS S ro f l bt with
  | none => rw [hm] at h; cases h
  | some b => rfl
theorem code_1 {S : Nat → Int} {self : Option Nat} {ro : Int} {rc : Nat} {st : Int} (h : codeS S self ro rc st = 1) : (meetS S ro st (lbS S rc st) (cse self)).isSome = true := by
  by_cases c : (meetS S ro st (lbS S rc st) (cse self)).isSome = true
  · exact c
  · unfold codeS at h
    rw [if_neg c] at h
    split at h
    · omega
    · split at h <;> omega
/-- a guard that lets pass, or not -/
theorem gd_t {o : Ans} {c : Prop} [Decidable c] {M : Mem} {A B : Int32 → Mem → Ans} {Q : Int32 → Mem → Prop} (h : o = some ((if c then 1 else 0), M)) (hc : c) (k : wp (B 1 M) Q) : wp (bd o fun r M1 => if r = I 0 then A r M1 else B r M1) Q := by
  rw [h, if_pos hc, bd_some, if_neg (by decide)]
  exact k
theorem gd_f {o : Ans} {c : Prop} [Decidable c] {M : Mem} {A B : Int32 → Mem → Ans} {Q : Int32 → Mem → Prop} (h : o = some ((if c then 1 else 0), M)) (hc : ¬ c) (k : wp (A 0 M) Q) : wp (bd o fun r M1 => if r = I 0 then A r M1 else B r M1) Q := by
  rw [h, if_neg hc, bd_some, if_pos (show (0 : Int32) = I 0 from rfl)]
  exact k
theorem gn_t {o : Ans} {c : Prop} [Decidable c] {M : Mem} {A B : Int32 → Mem → Ans} {Q : Int32 → Mem → Prop} (h : o = some ((if c then 0 else 1), M)) (hc : c) (k : wp (A 0 M) Q) : wp (bd o fun r M1 => if r = I 0 then A r M1 else B r M1) Q := by
  rw [h, if_pos hc, bd_some, if_pos (show (0 : Int32) = I 0 from rfl)]
  exact k
theorem gn_f {o : Ans} {c : Prop} [Decidable c] {M : Mem} {A B : Int32 → Mem → Ans} {Q : Int32 → Mem → Prop} (h : o = some ((if c then 0 else 1), M)) (hc : ¬ c) (k : wp (B 1 M) Q) : wp (bd o fun r M1 => if r = I 0 then A r M1 else B r M1) Q := by
  rw [h, if_neg hc, bd_some, if_neg (by decide)]
  exact k
theorem b_why (p1 p2 p3 p4 : Int32) : Both (d_X8_why p1 p2 p3 p4) (d_X9_why p1 p2 p3 p4) := by
  obtain ⟨a, ha, rfl⟩ := of_I p1
  obtain ⟨r, hr, rfl⟩ := of_I p2
  obtain ⟨st, hst, rfl⟩ := of_I p3
  obtain ⟨w, hw, rfl⟩ := of_I p4
  refine Both_q (fun S W l o T hA => ?_)
  have hi : SInv (S, W) := hA.1
  obtain ⟨h0, h1, h2, h3, h4, h5, hl⟩ := si_n hi
  by_cases c1 : 0 ≤ a ∧ a ≤ 5
  · by_cases c2 : 0 ≤ r ∧ r < S 4
    · by_cases c3 : S 0 < st ∧ st ≤ S 0 + 60
      · by_cases c4 : 0 ≤ w ∧ w ≤ 2
        · obtain ⟨rc, rfl⟩ : ∃ q : Nat, r = q := ⟨r.toNat, by omega⟩
          have hca : CaOk S none rc := ⟨c2.2, trivial⟩
          have hcb := codeS_b S none a rc st
          refine ⟨I (if w = 0 then codeS S none a rc st else if w = 1 then cuS S none a rc st else siS S none a rc st), fun M h => ?_, fun M h => ?_⟩
          · have e5 := (cv_n h.1).2.2.2.2.2.2.2.2.1
            unfold d_X8_why
            simp only [lit_, neg_I]
            refine gd_t (robot_I ha M).1 c1 (gd_t (has4_I h.1 hi hr) c2 (gd_t (canStart_I h.1 hi hst) c3 (gd_t (within_I hw (by omega) (by omega) M) c4 ?_)))
            rw [e5]
            simp (disch := first | omega | (unfold sm; omega)) only [wq_bd, wq_some, wq_bnd, wq_ite, bnd_e, bd_some, lit_, neg_I, I_lt, I_le, I_eq, I_add, I_sub, I_mul, I_clamp, chk_I, wchk_I, I_succ, Int.toNat_natCast, Int.reduceToNat, b01, b01I, bd_ite, if_true, if_false, ite_self, reduceIte, Int.reduceLE, Int.reduceLT, Int.reduceAdd, Int.reduceSub, Int.reduceNeg, Nat.reduceEqDiff, Nat.reduceAdd]
            refine wp_mono (rag_spec hi hca (by omega) ha h.1) (fun x M1 q => ?_)
            obtain ⟨q1, q2, q3, q4⟩ := q
            by_cases w0 : w = 0
            · rw [if_pos w0, if_pos w0]
              exact ⟨q1, cqf_S q4 h⟩
            · rw [if_neg w0, if_neg w0]
              by_cases w1 : w = 1
              · rw [if_pos w1, if_pos w1]
                exact ⟨q2, cqf_S q4 h⟩
              · rw [if_neg w1, if_neg w1]
                exact ⟨q3, cqf_S q4 h⟩
          · have hc8 : rc < 8 := by omega
            unfold d_X9_why
            simp only [lit_, neg_I]
            refine gn_t (robot_I ha M).2 c1 (gn_t (noRec_I h.1 hi hr) c2 (gd_t (isStart_I h.1 hi hst) c3 (gd_t (rin_I hw (by omega) (by omega) M) c4 ?_)))
            rw [wq_bd]
            refine wp_mono (bases_spec hi h.1 h.2.2.2.2 (out := -1) (Or.inl rfl)) (fun x M1 q => ?_)
            obtain ⟨q1, q2, q3⟩ := q
            rw [wq_bd]
            refine wp_mono (reason_spec hi hca (st := st) (by omega) ha (rqf_v q3 h.1) q2 q1) (fun x M2 z => ?_)
            obtain ⟨z1, z2, z3, z4, z5, z6⟩ := z
            have hR2 : RSt M2 ((S, W), l, o, T) := rqf_S (rqf_t q3 z3) z2 h
            rw [z1]
            simp (disch := first | omega | (unfold sm; omega)) only [wq_bd, wq_some, wq_bnd, wq_ite, bnd_e, bd_some, lit_, neg_I, I_lt, I_le, I_eq, I_add, I_sub, I_mul, I_clamp, chk_I, wchk_I, I_succ, Int.toNat_natCast, Int.reduceToNat, b01, b01I, bd_ite, if_true, if_false, ite_self, reduceIte, Int.reduceLE, Int.reduceLT, Int.reduceAdd, Int.reduceSub, Int.reduceNeg, Nat.reduceEqDiff, Nat.reduceAdd]
            by_cases w0 : w = 0
            · rw [if_pos w0, if_pos w0]
              exact ⟨rfl, hR2⟩
            · rw [if_neg w0, if_neg w0]
              unfold cuS siS
              by_cases k1 : codeS S none a rc st = 1
              · rw [k1, if_pos (show (1 : Int) = 1 from rfl), if_pos (show (1 : Int) = 1 from rfl), if_neg (show ¬ (1 : Int) = 2 by decide), if_neg (show ¬ (1 : Int) = 3 by decide)]
                have hs := code_1 k1
                have hlb : -2147483648 ≤ lbS S rc st ∧ lbS S rc st < 2147483648 := by
                  have hrr := si_r hi c2.2
                  unfold rcOk at hrr
                  unfold lbS
                  omega
                by_cases w1 : w = 1
                · rw [if_pos w1, if_pos w1, rlast_I hR2.1 hc8]
                  simp (disch := first | omega | (unfold sm; omega)) only [wq_bd, wq_some, wq_bnd, wq_ite, bnd_e, bd_some, lit_, neg_I, I_lt, I_le, I_eq, I_add, I_sub, I_mul, I_clamp, chk_I, wchk_I, I_succ, Int.toNat_natCast, Int.reduceToNat, b01, b01I, bd_ite, if_true, if_false, ite_self, reduceIte, Int.reduceLE, Int.reduceLT, Int.reduceAdd, Int.reduceSub, Int.reduceNeg, Nat.reduceEqDiff, Nat.reduceAdd, keep_I hR2.1 hi ha (show -2147483648 ≤ st ∧ st < 2147483648 by omega) hlb]
                  rw [show (-1 : Int) = cse none from rfl, oN_i hs (-5) (cse none)]
                  exact ⟨rfl, hR2⟩
                · rw [if_neg w1, if_neg w1]
                  exact ⟨rfl, hR2⟩
              · rw [if_neg k1, if_neg k1]
                by_cases k2 : codeS S none a rc st = 2
                · rw [if_pos k2, if_pos k2, k2, if_neg (show ¬ (2 : Int) = 3 by decide)]
                  have := z5 k1 60 (by decide)
                  by_cases w2 : w = 2
                  · rw [if_pos w2, if_neg (show ¬ w = 1 by omega)]
                    simp (disch := first | omega | (unfold sm; omega)) only [wq_bd, wq_some, wq_bnd, wq_ite, bnd_e, bd_some, lit_, neg_I, I_lt, I_le, I_eq, I_add, I_sub, I_mul, I_clamp, chk_I, wchk_I, I_succ, Int.toNat_natCast, Int.reduceToNat, b01, b01I, bd_ite, if_true, if_false, ite_self, reduceIte, Int.reduceLE, Int.reduceLT, Int.reduceAdd, Int.reduceSub, Int.reduceNeg, Nat.reduceEqDiff, Nat.reduceAdd, this]
                    exact ⟨rfl, hR2⟩
                  · rw [if_neg w2, if_pos (show w = 1 by omega)]
                    exact ⟨rfl, hR2⟩
                · rw [if_neg k2, if_neg k2]
                  by_cases k0 : codeS S none a rc st = 0
                  · rw [if_pos k0, k0, if_neg (show ¬ (0 : Int) = 3 by decide), if_neg (show ¬ (0 : Int) = 3 by decide), ite_self]
                    exact ⟨rfl, hR2⟩
                  · have k3 : codeS S none a rc st = 3 := by omega
                    obtain ⟨b, y1, y2⟩ := z6 k3
                    have hb5 := oth_lt y1
                    have := z5 k1 b (by omega)
                    rw [if_neg k0, k3, if_pos (show (3 : Int) = 3 from rfl), if_pos (show (3 : Int) = 3 from rfl), y1]
                    by_cases w1 : w = 1
                    · rw [if_pos w1, if_pos w1]
                      exact ⟨y2, hR2⟩
                    · rw [if_neg w1, if_neg w1, y2]
                      simp (disch := first | omega | (unfold sm; omega)) only [wq_bd, wq_some, wq_bnd, wq_ite, bnd_e, bd_some, lit_, neg_I, I_lt, I_le, I_eq, I_add, I_sub, I_mul, I_clamp, chk_I, wchk_I, I_succ, Int.toNat_natCast, Int.reduceToNat, b01, b01I, bd_ite, if_true, if_false, ite_self, reduceIte, Int.reduceLE, Int.reduceLT, Int.reduceAdd, Int.reduceSub, Int.reduceNeg, Nat.reduceEqDiff, Nat.reduceAdd, this]
                      exact ⟨trivial, hR2⟩
        · refine ⟨I (-2), fun M h => ?_, fun M h => ?_⟩
          · unfold d_X8_why
            simp only [lit_, neg_I]
            refine gd_t (robot_I ha M).1 c1 (gd_t (has4_I h.1 hi hr) c2 (gd_t (canStart_I h.1 hi hst) c3 (gd_f (within_I hw (by omega) (by omega) M) c4 ?_)))
            exact wp_some ⟨rfl, h⟩
          · unfold d_X9_why
            simp only [lit_, neg_I]
            refine gn_t (robot_I ha M).2 c1 (gn_t (noRec_I h.1 hi hr) c2 (gd_t (isStart_I h.1 hi hst) c3 (gd_f (rin_I hw (by omega) (by omega) M) c4 ?_)))
            exact wp_some ⟨rfl, h⟩
      · refine ⟨I (-2), fun M h => ?_, fun M h => ?_⟩
        · unfold d_X8_why
          simp only [lit_, neg_I]
          refine gd_t (robot_I ha M).1 c1 (gd_t (has4_I h.1 hi hr) c2 (gd_f (canStart_I h.1 hi hst) c3 ?_))
          exact wp_some ⟨rfl, h⟩
        · unfold d_X9_why
          simp only [lit_, neg_I]
          refine gn_t (robot_I ha M).2 c1 (gn_t (noRec_I h.1 hi hr) c2 (gd_f (isStart_I h.1 hi hst) c3 ?_))
          exact wp_some ⟨rfl, h⟩
    · refine ⟨I (-1), fun M h => ?_, fun M h => ?_⟩
      · unfold d_X8_why
        simp only [lit_, neg_I]
        refine gd_t (robot_I ha M).1 c1 (gd_f (has4_I h.1 hi hr) c2 ?_)
        exact wp_some ⟨rfl, h⟩
      · unfold d_X9_why
        simp only [lit_, neg_I]
        refine gn_t (robot_I ha M).2 c1 (gn_f (noRec_I h.1 hi hr) c2 ?_)
        exact wp_some ⟨rfl, h⟩
  · refine ⟨I (-1), fun M h => ?_, fun M h => ?_⟩
    · unfold d_X8_why
      simp only [lit_, neg_I]
      refine gd_f (robot_I ha M).1 c1 ?_
      exact wp_some ⟨rfl, h⟩
    · unfold d_X9_why
      simp only [lit_, neg_I]
      refine gn_f (robot_I ha M).2 c1 ?_
      exact wp_some ⟨rfl, h⟩
theorem b_earliest (p1 p2 p3 : Int32) : Both (d_X8_earliest p1 p2 p3) (d_X9_earliest p1 p2 p3) := by
  obtain ⟨a, ha, rfl⟩ := of_I p1
  obtain ⟨r, hr, rfl⟩ := of_I p2
  obtain ⟨st, hst, rfl⟩ := of_I p3
  refine Both_q (fun S W l o T hA => ?_)
  have hi : SInv (S, W) := hA.1
  obtain ⟨h0, h1, h2, h3, h4, h5, hl⟩ := si_n hi
  by_cases c1 : 0 ≤ a ∧ a ≤ 5
  · by_cases c2 : 0 ≤ r ∧ r < S 4
    · by_cases c3 : S 0 < st ∧ st ≤ S 0 + 60
      · obtain ⟨rc, rfl⟩ : ∃ q : Nat, r = q := ⟨r.toNat, by omega⟩
        have hca : CaOk S none rc := ⟨c2.2, trivial⟩
        refine ⟨I (firS S none a rc st (st + 60)), fun M h => ?_, fun M h => ?_⟩
        · have e5 := (cv_n h.1).2.2.2.2.2.2.2.2.1
          unfold d_X8_earliest
          simp (disch := first | omega | (unfold sm; omega)) only [wq_bd, wq_some, wq_bnd, wq_ite, bnd_e, bd_some, lit_, neg_I, I_lt, I_le, I_eq, I_add, I_sub, I_mul, I_clamp, chk_I, wchk_I, I_succ, Int.toNat_natCast, Int.reduceToNat, b01, b01I, bd_ite, if_true, if_false, ite_self, reduceIte, Int.reduceLE, Int.reduceLT, Int.reduceAdd, Int.reduceSub, Int.reduceNeg, Nat.reduceEqDiff, Nat.reduceAdd, (robot_I ha M).1, has4_I h.1 hi, canStart_I h.1 hi, e5]
          rw [if_neg (fun hh => hh c1), if_neg (fun hh => hh c2), if_neg (fun hh => hh c3)]
          exact wp_mono (ff_spec hi hca ha (fr := st) (to := st + 60) (by omega) (by omega) h.1) (fun x M1 q => ⟨q.1, cqf_S q.2 h⟩)
        · unfold d_X9_earliest
          simp (disch := first | omega | (unfold sm; omega)) only [wq_bd, wq_some, wq_bnd, wq_ite, bnd_e, bd_some, lit_, neg_I, I_lt, I_le, I_eq, I_add, I_sub, I_mul, I_clamp, chk_I, wchk_I, I_succ, Int.toNat_natCast, Int.reduceToNat, b01, b01I, bd_ite, if_true, if_false, ite_self, reduceIte, Int.reduceLE, Int.reduceLT, Int.reduceAdd, Int.reduceSub, Int.reduceNeg, Nat.reduceEqDiff, Nat.reduceAdd, (robot_I ha M).2, noRec_I h.1 hi, isStart_I h.1 hi, b10, b10I]
          rw [if_pos c1, if_pos c2, if_neg (fun hh => hh c3)]
          refine wp_mono (bases_spec hi h.1 h.2.2.2.2 (out := -1) (Or.inl rfl)) (fun x M1 q => ?_)
          obtain ⟨q1, q2, q3⟩ := q
          have e0 := (rv_n (rqf_v q3 h.1)).1
          simp (disch := first | omega | (unfold sm; omega)) only [wq_bd, wq_some, wq_bnd, wq_ite, bnd_e, bd_some, lit_, neg_I, I_lt, I_le, I_eq, I_add, I_sub, I_mul, I_clamp, chk_I, wchk_I, I_succ, Int.toNat_natCast, Int.reduceToNat, b01, b01I, bd_ite, if_true, if_false, ite_self, reduceIte, Int.reduceLE, Int.reduceLT, Int.reduceAdd, Int.reduceSub, Int.reduceNeg, Nat.reduceEqDiff, Nat.reduceAdd, e0]
          refine wp_mono (first_spec hi hca ha (fr := st) (to := S 0 + 60) (by omega) (by omega) (rqf_v q3 h.1) q2 q1) (fun x M2 z => ⟨?_, rqf_S (rqf_t q3 z.2.2) z.2.1 h⟩)
          rw [z.1]
          unfold firS
          rw [show min (st + 60) (S 0 + 60) = min (S 0 + 60) (S 0 + 60) by omega]
      · refine ⟨I (-2), fun M h => ?_, fun M h => ?_⟩
        · unfold d_X8_earliest
          simp (disch := first | omega | (unfold sm; omega)) only [wq_bd, wq_some, wq_bnd, wq_ite, bnd_e, bd_some, lit_, neg_I, I_lt, I_le, I_eq, I_add, I_sub, I_mul, I_clamp, chk_I, wchk_I, I_succ, Int.toNat_natCast, Int.reduceToNat, b01, b01I, bd_ite, if_true, if_false, ite_self, reduceIte, Int.reduceLE, Int.reduceLT, Int.reduceAdd, Int.reduceSub, Int.reduceNeg, Nat.reduceEqDiff, Nat.reduceAdd, (robot_I ha M).1, has4_I h.1 hi, canStart_I h.1 hi]
          rw [if_neg (fun hh => hh c1), if_neg (fun hh => hh c2), if_pos c3]
          exact ⟨trivial, h⟩
        · unfold d_X9_earliest
          simp (disch := first | omega | (unfold sm; omega)) only [wq_bd, wq_some, wq_bnd, wq_ite, bnd_e, bd_some, lit_, neg_I, I_lt, I_le, I_eq, I_add, I_sub, I_mul, I_clamp, chk_I, wchk_I, I_succ, Int.toNat_natCast, Int.reduceToNat, b01, b01I, bd_ite, if_true, if_false, ite_self, reduceIte, Int.reduceLE, Int.reduceLT, Int.reduceAdd, Int.reduceSub, Int.reduceNeg, Nat.reduceEqDiff, Nat.reduceAdd, (robot_I ha M).2, noRec_I h.1 hi, isStart_I h.1 hi, b10, b10I]
          rw [if_pos c1, if_pos c2, if_pos c3]
          exact ⟨trivial, h⟩
    · refine ⟨I (-1), fun M h => ?_, fun M h => ?_⟩
      · unfold d_X8_earliest
        simp (disch := first | omega | (unfold sm; omega)) only [wq_bd, wq_some, wq_bnd, wq_ite, bnd_e, bd_some, lit_, neg_I, I_lt, I_le, I_eq, I_add, I_sub, I_mul, I_clamp, chk_I, wchk_I, I_succ, Int.toNat_natCast, Int.reduceToNat, b01, b01I, bd_ite, if_true, if_false, ite_self, reduceIte, Int.reduceLE, Int.reduceLT, Int.reduceAdd, Int.reduceSub, Int.reduceNeg, Nat.reduceEqDiff, Nat.reduceAdd, (robot_I ha M).1, has4_I h.1 hi]
        rw [if_neg (fun hh => hh c1), if_pos c2]
        exact ⟨trivial, h⟩
      · unfold d_X9_earliest
        simp (disch := first | omega | (unfold sm; omega)) only [wq_bd, wq_some, wq_bnd, wq_ite, bnd_e, bd_some, lit_, neg_I, I_lt, I_le, I_eq, I_add, I_sub, I_mul, I_clamp, chk_I, wchk_I, I_succ, Int.toNat_natCast, Int.reduceToNat, b01, b01I, bd_ite, if_true, if_false, ite_self, reduceIte, Int.reduceLE, Int.reduceLT, Int.reduceAdd, Int.reduceSub, Int.reduceNeg, Nat.reduceEqDiff, Nat.reduceAdd, (robot_I ha M).2, noRec_I h.1 hi, b10, b10I]
        rw [if_pos c1, if_neg c2]
        exact ⟨trivial, h⟩
  · refine ⟨I (-1), fun M h => ?_, fun M h => ?_⟩
    · unfold d_X8_earliest
      simp (disch := first | omega | (unfold sm; omega)) only [wq_bd, wq_some, wq_bnd, wq_ite, bnd_e, bd_some, lit_, neg_I, I_lt, I_le, I_eq, I_add, I_sub, I_mul, I_clamp, chk_I, wchk_I, I_succ, Int.toNat_natCast, Int.reduceToNat, b01, b01I, bd_ite, if_true, if_false, ite_self, reduceIte, Int.reduceLE, Int.reduceLT, Int.reduceAdd, Int.reduceSub, Int.reduceNeg, Nat.reduceEqDiff, Nat.reduceAdd, (robot_I ha M).1]
      rw [if_pos c1]
      exact ⟨trivial, h⟩
    · unfold d_X9_earliest
      simp (disch := first | omega | (unfold sm; omega)) only [wq_bd, wq_some, wq_bnd, wq_ite, bnd_e, bd_some, lit_, neg_I, I_lt, I_le, I_eq, I_add, I_sub, I_mul, I_clamp, chk_I, wchk_I, I_succ, Int.toNat_natCast, Int.reduceToNat, b01, b01I, bd_ite, if_true, if_false, ite_self, reduceIte, Int.reduceLE, Int.reduceLT, Int.reduceAdd, Int.reduceSub, Int.reduceNeg, Nat.reduceEqDiff, Nat.reduceAdd, (robot_I ha M).2, b10, b10I]
      rw [if_neg c1]
      exact ⟨trivial, h⟩
theorem wi_ok {S : Nat → Int} {W : List Wi} (hi : SInv (S, W)) {w : Wi} (hw : w ∈ W) : (0 ≤ w.1 ∧ w.1 ≤ 5) ∧ (0 ≤ w.2.1 ∧ w.2.1 < S 4) ∧ (1 ≤ w.2.2 ∧ w.2.2 ≤ S 0 + 60) := hi.2.2.2.2.2.2.2.2.2 w hw
theorem b_wishTold (p w : Int32) : Both (d_X8_wishTold p w) (d_X9_wishTold p w) := by
  obtain ⟨a, ha, rfl⟩ := of_I p
  obtain ⟨v, hv, rfl⟩ := of_I w
  refine Both_q (fun S W l o T hA => ?_)
  have hi : SInv (S, W) := hA.1
  obtain ⟨h0, h1, h2, h3, h4, h5, hl⟩ := si_n hi
  by_cases c : 0 ≤ a ∧ a < W.length
  · obtain ⟨q, rfl⟩ : ∃ q : Nat, a = q := ⟨a.toNat, by omega⟩
    have hget : W[q]? = some W[q] := List.getElem?_eq_getElem (by omega)
    have hwk := wi_ok hi (List.mem_of_getElem? hget)
    generalize W[q] = wi at hget hwk
    obtain ⟨w1, w2, w3⟩ := wi
    dsimp only at hwk
    obtain ⟨rc, hrc⟩ : ∃ n : Nat, w2 = n := ⟨w2.toNat, by omega⟩
    subst hrc
    have hca : CaOk S none rc := ⟨hwk.2.1.2, trivial⟩
    refine ⟨I (if v = 0 then w1 else if v = 1 then rc else if v = 2 then w3 else if v = 3 then firS S none w1 rc w3 (w3 + 20) else -2), fun M h => ?_, fun M h => ?_⟩
    · have hc := cv_cc.mp h.1
      obtain ⟨k1, k2, k3⟩ := hc.2.2 q _ hget
      have e5 := (cv_n h.1).2.2.2.2.2.2.2.2.1
      unfold d_X8_wishTold
      simp (disch := first | omega | (unfold sm; omega)) only [wq_bd, wq_some, wq_bnd, wq_ite, bnd_e, bd_some, lit_, neg_I, I_lt, I_le, I_eq, I_add, I_sub, I_mul, I_clamp, chk_I, wchk_I, I_succ, Int.toNat_natCast, Int.reduceToNat, b01, b01I, bd_ite, if_true, if_false, ite_self, reduceIte, Int.reduceLE, Int.reduceLT, Int.reduceAdd, Int.reduceSub, Int.reduceNeg, Nat.reduceEqDiff, Nat.reduceAdd, has7_I hc.2 hl, k1, k2, k3, e5]
      rw [if_neg (fun hh => hh c)]
      by_cases v0 : v = 0
      · rw [if_pos v0, if_pos v0]; exact ⟨rfl, h⟩
      · rw [if_neg v0, if_neg v0]
        by_cases v1 : v = 1
        · rw [if_pos v1, if_pos v1]; exact ⟨rfl, h⟩
        · rw [if_neg v1, if_neg v1]
          by_cases v2 : v = 2
          · rw [if_pos v2, if_pos v2]; exact ⟨rfl, h⟩
          · rw [if_neg v2, if_neg v2]
            by_cases v3 : v = 3
            · rw [if_pos v3, if_pos v3]
              exact wp_mono (ff_spec hi hca (ro := w1) (by omega) (fr := w3) (to := w3 + 20) (by omega) (by omega) h.1) (fun x M1 q => ⟨q.1, cqf_S q.2 h⟩)
            · rw [if_neg v3, if_neg v3]
              exact ⟨rfl, h⟩
    · have e6 := (rv_n h.1).2.2.2.2.2.2.1
      obtain ⟨k1, k2, k3⟩ := rofW h.1 hl hget
      unfold d_X9_wishTold
      simp (disch := first | omega | (unfold sm; omega)) only [wq_bd, wq_some, wq_bnd, wq_ite, bnd_e, bd_some, lit_, neg_I, I_lt, I_le, I_eq, I_add, I_sub, I_mul, I_clamp, chk_I, wchk_I, I_succ, Int.toNat_natCast, Int.reduceToNat, b01, b01I, bd_ite, if_true, if_false, ite_self, reduceIte, Int.reduceLE, Int.reduceLT, Int.reduceAdd, Int.reduceSub, Int.reduceNeg, Nat.reduceEqDiff, Nat.reduceAdd, e6, rin_I]
      rw [if_neg (by omega)]
      by_cases cw : 0 ≤ v ∧ v ≤ 2
      · rw [if_neg (fun hh => hh cw)]
        rcases (show v = 0 ∨ v = 1 ∨ v = 2 by omega) with rfl | rfl | rfl
        · rw [k1, wq_some]; exact ⟨rfl, h⟩
        · rw [k2, wq_some]; exact ⟨rfl, h⟩
        · rw [k3, wq_some]; exact ⟨rfl, h⟩
      · rw [if_pos cw, if_neg (show ¬ v = 0 by omega), if_neg (show ¬ v = 1 by omega), if_neg (show ¬ v = 2 by omega)]
        by_cases v3 : v = 3
        · rw [if_pos v3, if_pos v3]
          refine wp_mono (bases_spec hi h.1 h.2.2.2.2 (out := -1) (Or.inl rfl)) (fun x M1 q => ?_)
          obtain ⟨q1, q2, q3⟩ := q
          obtain ⟨k1, k2, k3⟩ := rofW (rqf_v q3 h.1) hl hget
          simp (disch := first | omega | (unfold sm; omega)) only [wq_bd, wq_some, wq_bnd, wq_ite, bnd_e, bd_some, lit_, neg_I, I_lt, I_le, I_eq, I_add, I_sub, I_mul, I_clamp, chk_I, wchk_I, I_succ, Int.toNat_natCast, Int.reduceToNat, b01, b01I, bd_ite, if_true, if_false, ite_self, reduceIte, Int.reduceLE, Int.reduceLT, Int.reduceAdd, Int.reduceSub, Int.reduceNeg, Nat.reduceEqDiff, Nat.reduceAdd, k1, k2, k3]
          exact wp_mono (first_spec hi hca (ro := w1) (by omega) (fr := w3) (to := w3 + 20) (by omega) (by omega) (rqf_v q3 h.1) q2 q1) (fun x M2 z => ⟨z.1, rqf_S (rqf_t q3 z.2.2) z.2.1 h⟩)
        · rw [if_neg v3, if_neg v3]
          exact ⟨rfl, h⟩
  · refine ⟨I (-1), fun M h => ?_, fun M h => ?_⟩
    · have hc := cv_cc.mp h.1
      unfold d_X8_wishTold
      simp (disch := first | omega | (unfold sm; omega)) only [wq_bd, wq_some, wq_bnd, wq_ite, bnd_e, bd_some, lit_, neg_I, I_lt, I_le, I_eq, I_add, I_sub, I_mul, I_clamp, chk_I, wchk_I, I_succ, Int.toNat_natCast, Int.reduceToNat, b01, b01I, bd_ite, if_true, if_false, ite_self, reduceIte, Int.reduceLE, Int.reduceLT, Int.reduceAdd, Int.reduceSub, Int.reduceNeg, Nat.reduceEqDiff, Nat.reduceAdd, has7_I hc.2 hl]
      rw [if_pos c]
      exact ⟨trivial, h⟩
    · have e6 := (rv_n h.1).2.2.2.2.2.2.1
      unfold d_X9_wishTold
      simp (disch := first | omega | (unfold sm; omega)) only [wq_bd, wq_some, wq_bnd, wq_ite, bnd_e, bd_some, lit_, neg_I, I_lt, I_le, I_eq, I_add, I_sub, I_mul, I_clamp, chk_I, wchk_I, I_succ, Int.toNat_natCast, Int.reduceToNat, b01, b01I, bd_ite, if_true, if_false, ite_self, reduceIte, Int.reduceLE, Int.reduceLT, Int.reduceAdd, Int.reduceSub, Int.reduceNeg, Nat.reduceEqDiff, Nat.reduceAdd, e6, rin_I]
      rw [if_pos (by omega)]
      exact ⟨trivial, h⟩
