/-! type, clearText, undo, keep, restore -/
theorem u16 (x : UInt16) : x.toUInt32.toInt32.toUInt32.toUInt16 = x := by simp
theorem cOk_nar (p : Int32) : cOk (vp_nar .char p) := by
  show Value.int (p.toUInt32.toUInt16.toUInt32.toInt32.toUInt32.toUInt16.toUInt32.toInt32) = Value.int (p.toUInt32.toUInt16.toUInt32.toInt32)
  rw [u16]
theorem txt_add {n : Nat} {T : List Int32} {f : Nat → Int32} {v : Int32} (h : ∀ j c, T[j]? = some c → f j = c) : ∀ j c, (T ++ [v])[j]? = some c → upd f T.length v j = c := by
  intro j c hj
  by_cases hl : j < T.length
  · rw [List.getElem?_append_left hl] at hj
    rw [upd_n (by omega)]
    exact h j c hj
  · have hb := (List.getElem?_eq_some_iff.mp hj).1
    rw [List.length_append] at hb
    simp only [List.length_cons, List.length_nil] at hb
    have ej : j = T.length := by omega
    subst ej
    rw [List.getElem?_append_right (by omega), Nat.sub_self] at hj
    cases hj
    exact upd_s
theorem b_type (p : Int32) : Both (d_X8_type p) (d_X9_type p) := by
  intro A hA
  obtain ⟨s, l, o, T⟩ := A
  obtain ⟨a1, a2, a3, a4, a5⟩ := hA
  dsimp only at a1 a2 a3 a4 a5
  by_cases hl : T.length = 60
  · refine ⟨I (-3), (s, l, o, T), ⟨a1, a2, a3, a4, a5⟩, fun M h => ?_, fun M h => ?_⟩
    · have e := h.2.2.2.1
      dsimp only at e
      unfold d_X8_type
      simp (disch := first | omega | (unfold sm; omega)) only [wq_bd, wq_some, wq_bnd, wq_ite, bnd_e, bd_some, lit_, neg_I, I_lt, I_le, I_eq, I_add, I_sub, I_mul, I_clamp, chk_I, wchk_I, I_succ, Int.toNat_natCast, Int.reduceToNat, b01, b01I, bd_ite, if_true, if_false, ite_self, reduceIte, Int.reduceLE, Int.reduceLT, Int.reduceAdd, Int.reduceSub, Int.reduceNeg, Nat.reduceEqDiff, Nat.reduceAdd, e]
      rw [if_neg (by omega)]
      exact ⟨trivial, h⟩
    · have e := h.2.2.2.1.1
      dsimp only at e
      unfold d_X9_type
      simp (disch := first | omega | (unfold sm; omega)) only [wq_bd, wq_some, wq_bnd, wq_ite, bnd_e, bd_some, lit_, neg_I, I_lt, I_le, I_eq, I_add, I_sub, I_mul, I_clamp, chk_I, wchk_I, I_succ, Int.toNat_natCast, Int.reduceToNat, b01, b01I, bd_ite, if_true, if_false, ite_self, reduceIte, Int.reduceLE, Int.reduceLT, Int.reduceAdd, Int.reduceSub, Int.reduceNeg, Nat.reduceEqDiff, Nat.reduceAdd, e]
      rw [if_pos (by omega)]
      exact ⟨trivial, h⟩
  · refine ⟨I (T.length + 1 : Nat), (s, l, o, T ++ [vp_nar .char p]), ⟨a1, a2, a3, ?_, ?_⟩, fun M h => ?_, fun M h => ?_⟩
    · dsimp only
      rw [List.length_append]
      simp only [List.length_cons, List.length_nil]
      omega
    · intro c hc
      rcases List.mem_append.mp hc with hc | hc
      · exact a5 c hc
      · rw [List.mem_singleton.mp hc]
        exact cOk_nar p
    · have e := h.2.2.2.1
      dsimp only at e
      unfold d_X8_type d_X6_append
      simp (disch := first | omega | (unfold sm; omega)) only [wq_bd, wq_some, wq_bnd, wq_ite, bnd_e, bd_some, lit_, neg_I, I_lt, I_le, I_eq, I_add, I_sub, I_mul, I_clamp, chk_I, wchk_I, I_succ, Int.toNat_natCast, Int.reduceToNat, b01, b01I, bd_ite, if_true, if_false, ite_self, reduceIte, Int.reduceLE, Int.reduceLT, Int.reduceAdd, Int.reduceSub, Int.reduceNeg, Nat.reduceEqDiff, Nat.reduceAdd, e]
      rw [if_pos (by omega), if_neg (by omega), if_neg (by omega)]
      simp (disch := first | omega | (unfold sm; omega)) only [wq_bd, wq_some, wq_bnd, wq_ite, bnd_e, bd_some, lit_, neg_I, I_lt, I_le, I_eq, I_add, I_sub, I_mul, I_clamp, chk_I, wchk_I, I_succ, Int.toNat_natCast, Int.reduceToNat, b01, b01I, bd_ite, if_true, if_false, ite_self, reduceIte, Int.reduceLE, Int.reduceLT, Int.reduceAdd, Int.reduceSub, Int.reduceNeg, Nat.reduceEqDiff, Nat.reduceAdd, mup_s, upd_s, mup_n, e, mup_a, Nat.succ_ne_self]
      refine ⟨trivial, cv_congr h.1 (fun j hj => ?_), CHist_congr h.2.1 (fun i hi => ?_), snC_congr h.2.2.1 (fun i hi => ?_), ?_, ?_⟩
      · rw [mup_n (by unfold sI; omega), mup_n (by unfold sI; omega)]
      · rw [mup_n (by omega), mup_n (by omega)]
      · rw [mup_n (by omega), mup_n (by omega)]
      · rw [mup_s, upd_s, List.length_append]; rfl
      · dsimp only
        rw [mup_n (by decide), mup_s]
        exact txt_add h.2.2.2.2 (n := 0)
    · have e := h.2.2.2.1.1
      dsimp only at e
      unfold d_X9_type
      simp (disch := first | omega | (unfold sm; omega)) only [wq_bd, wq_some, wq_bnd, wq_ite, bnd_e, bd_some, lit_, neg_I, I_lt, I_le, I_eq, I_add, I_sub, I_mul, I_clamp, chk_I, wchk_I, I_succ, Int.toNat_natCast, Int.reduceToNat, b01, b01I, bd_ite, if_true, if_false, ite_self, reduceIte, Int.reduceLE, Int.reduceLT, Int.reduceAdd, Int.reduceSub, Int.reduceNeg, Nat.reduceEqDiff, Nat.reduceAdd, e]
      rw [if_neg (by omega)]
      simp (disch := first | omega | (unfold sm; omega)) only [wq_bd, wq_some, wq_bnd, wq_ite, bnd_e, bd_some, lit_, neg_I, I_lt, I_le, I_eq, I_add, I_sub, I_mul, I_clamp, chk_I, wchk_I, I_succ, Int.toNat_natCast, Int.reduceToNat, b01, b01I, bd_ite, if_true, if_false, ite_self, reduceIte, Int.reduceLE, Int.reduceLT, Int.reduceAdd, Int.reduceSub, Int.reduceNeg, Nat.reduceEqDiff, Nat.reduceAdd, mup_s, upd_s, mup_n, e, mup_a]
      refine ⟨trivial, RSt_upd (T := T ++ [vp_nar .char p]) (s := s) (l := l) (M := mup (mup M 153 T.length (vp_nar .char p)) 143 18 (I (T.length + 1 : Nat))) ⟨?_, ?_, ?_, ?_, ?_⟩ ?_ ?_ (fun j hj => rfl) rfl rfl⟩
      · rw [mup_n (by decide), mup_n (by decide)]; exact h.1
      · refine RHist_congr h.2.1 ?_ ?_
        · rw [mup_s, upd_n (by decide), mup_n (by decide)]
        · rw [mup_n (by decide), mup_n (by decide)]
      · refine snR_congr h.2.2.1 ?_ ?_
        · rw [mup_s, upd_n (by decide), mup_n (by decide)]
        · rw [mup_n (by decide), mup_n (by decide)]
      · refine ⟨?_, ?_⟩
        · rw [mup_s, upd_s, List.length_append]; rfl
        · rw [mup_n (by decide), mup_s]
          exact txt_add h.2.2.2.1.2 (n := 0)
      · refine scR_congr h.2.2.2.2 (fun j h1 h2 => ?_)
        rw [mup_s, upd_n (by omega), mup_n (by decide)]
      · rw [mup_n (by decide), mup_n (by decide)]; exact h.1
      · refine RHist_congr h.2.1 ?_ ?_
        · rw [mup_s, upd_n (by decide), mup_n (by decide)]
        · rw [mup_n (by decide), mup_n (by decide)]
theorem b_clearText : Both d_X8_clearText d_X9_clearText := by
  intro A hA
  obtain ⟨s, l, o, T⟩ := A
  obtain ⟨a1, a2, a3, a4, a5⟩ := hA
  dsimp only at a1 a2 a3 a4 a5
  refine ⟨I T.length, (s, l, o, []), ⟨a1, a2, a3, Nat.zero_le _, fun c hc => by cases hc⟩, fun M h => ?_, fun M h => ?_⟩
  · unfold d_X8_clearText
    simp (disch := first | omega | (unfold sm; omega)) only [wq_bd, wq_some, wq_bnd, wq_ite, bnd_e, bd_some, lit_, neg_I, I_lt, I_le, I_eq, I_add, I_sub, I_mul, I_clamp, chk_I, wchk_I, I_succ, Int.toNat_natCast, Int.reduceToNat, b01, b01I, bd_ite, if_true, if_false, ite_self, reduceIte, Int.reduceLE, Int.reduceLT, Int.reduceAdd, Int.reduceSub, Int.reduceNeg, Nat.reduceEqDiff, Nat.reduceAdd]
    refine ⟨h.2.2.2.1, cv_congr h.1 (fun j hj => ?_), CHist_congr h.2.1 (fun i hi => ?_), snC_congr h.2.2.1 (fun i hi => ?_), ?_, fun j c hc => by cases hc⟩
    · rw [mup_n (by unfold sI; omega)]
    · rw [mup_n (by omega)]
    · rw [mup_n (by omega)]
    · rw [mup_s, upd_s]; rfl
  · unfold d_X9_clearText
    simp (disch := first | omega | (unfold sm; omega)) only [wq_bd, wq_some, wq_bnd, wq_ite, bnd_e, bd_some, lit_, neg_I, I_lt, I_le, I_eq, I_add, I_sub, I_mul, I_clamp, chk_I, wchk_I, I_succ, Int.toNat_natCast, Int.reduceToNat, b01, b01I, bd_ite, if_true, if_false, ite_self, reduceIte, Int.reduceLE, Int.reduceLT, Int.reduceAdd, Int.reduceSub, Int.reduceNeg, Nat.reduceEqDiff, Nat.reduceAdd]
    refine ⟨h.2.2.2.1.1, ?_, RHist_congr h.2.1 ?_ ?_, snR_congr h.2.2.1 ?_ ?_, ⟨?_, fun j c hc => by cases hc⟩, scR_congr h.2.2.2.2 (fun j h1 h2 => ?_)⟩
    · rw [mup_n (by decide)]; exact h.1
    · rw [mup_s, upd_n (by decide)]
    · rw [mup_n (by decide)]
    · rw [mup_s, upd_n (by decide)]
    · rw [mup_n (by decide)]
    · rw [mup_s, upd_s]; rfl
    · rw [mup_s, upd_n (by omega)]
theorem b_undo : Both d_X8_undo d_X9_undo := by
  intro A hA
  obtain ⟨s, l, o, T⟩ := A
  have hA' := hA
  obtain ⟨a1, a2, a3, a4, a5⟩ := hA
  dsimp only at a1 a2 a3 a4 a5
  rcases List.eq_nil_or_concat l with rfl | ⟨l', q, hl'⟩
  · refine ⟨I (-5), (s, [], o, T), hA', fun M h => ?_, fun M h => ?_⟩
    · have e : M 134 1 = I ((0 : Nat) : Int) := h.2.1.1
      unfold d_X8_undo
      simp (disch := first | omega | (unfold sm; omega)) only [wq_bd, wq_some, wq_bnd, wq_ite, bnd_e, bd_some, lit_, neg_I, I_lt, I_le, I_eq, I_add, I_sub, I_mul, I_clamp, chk_I, wchk_I, I_succ, Int.toNat_natCast, Int.reduceToNat, b01, b01I, bd_ite, if_true, if_false, ite_self, reduceIte, Int.reduceLE, Int.reduceLT, Int.reduceAdd, Int.reduceSub, Int.reduceNeg, Nat.reduceEqDiff, Nat.reduceAdd, e]
      exact ⟨trivial, h⟩
    · have e : M 143 2 = I ((0 : Nat) : Int) := h.2.1.1
      unfold d_X9_undo
      simp (disch := first | omega | (unfold sm; omega)) only [wq_bd, wq_some, wq_bnd, wq_ite, bnd_e, bd_some, lit_, neg_I, I_lt, I_le, I_eq, I_add, I_sub, I_mul, I_clamp, chk_I, wchk_I, I_succ, Int.toNat_natCast, Int.reduceToNat, b01, b01I, bd_ite, if_true, if_false, ite_self, reduceIte, Int.reduceLE, Int.reduceLT, Int.reduceAdd, Int.reduceSub, Int.reduceNeg, Nat.reduceEqDiff, Nat.reduceAdd, e]
      exact ⟨trivial, h⟩
  · rw [List.concat_eq_append] at hl'
    subst hl'
    have hq : SInv q := a2 q (List.mem_append_right _ (List.mem_singleton.mpr rfl))
    have hq8 := hq.2.2.2.2.2.2.1
    have hlen : (l' ++ [q]).length = l'.length + 1 := by rw [List.length_append]; rfl
    refine ⟨I l'.length, (q, l', o, T), ⟨hq, fun x hx => a2 x (List.mem_append_left _ hx), a3, a4, a5⟩, fun M h => ?_, fun M h => ?_⟩
    · have e := h.2.1.1
      have e4 := h.2.1.2.1
      dsimp only at e e4
      rw [hlen] at e e4
      unfold d_X8_undo
      simp (disch := first | omega | (unfold sm; omega)) only [wq_bd, wq_some, wq_bnd, wq_ite, bnd_e, bd_some, lit_, neg_I, I_lt, I_le, I_eq, I_add, I_sub, I_mul, I_clamp, chk_I, wchk_I, I_succ, Int.toNat_natCast, Int.reduceToNat, b01, b01I, bd_ite, if_true, if_false, ite_self, reduceIte, Int.reduceLE, Int.reduceLT, Int.reduceAdd, Int.reduceSub, Int.reduceNeg, Nat.reduceEqDiff, Nat.reduceAdd, e]
      rw [if_neg (by omega)]
      refine wp_mono (pop_spec h.2.1 hq8) (fun r M1 k => ?_)
      obtain ⟨k1, k2, k3⟩ := k
      exact ⟨k1.1, CSt_upd h k2 k1 (fun i hi => k3 i (by omega) (by omega))⟩
    · have e := h.2.1.1
      have e4 := h.2.1.2.1
      dsimp only at e e4
      rw [hlen] at e e4
      have h3 := h.2.1.2.2
      unfold d_X9_undo
      simp (disch := first | omega | (unfold sm; omega)) only [wq_bd, wq_some, wq_bnd, wq_ite, bnd_e, bd_some, lit_, neg_I, I_lt, I_le, I_eq, I_add, I_sub, I_mul, I_clamp, chk_I, wchk_I, I_succ, Int.toNat_natCast, Int.reduceToNat, b01, b01I, bd_ite, if_true, if_false, ite_self, reduceIte, Int.reduceLE, Int.reduceLT, Int.reduceAdd, Int.reduceSub, Int.reduceNeg, Nat.reduceEqDiff, Nat.reduceAdd, e]
      rw [if_neg (by omega)]
      rw [show (((l'.length + 1 : Nat) : Int) - 1) = (l'.length : Int) by omega]
      rw [show (I 0 : Int32) = I ((0 : Nat) : Int) from rfl, und_L (K := l'.length) (by omega) 366 fuelN 0 _ (by omega) (by unfold fuelN; omega) (by rw [mup_s, upd_s])]
      rw [wq_some]
      refine ⟨by rw [mset_n (by decide), mup_s, upd_s], RSt_upd h ?_ ⟨?_, by omega, fun j s' hj => ?_⟩ (fun j hj => ?_) ?_ ?_⟩
      · rw [mset_s]
        refine rv_congr hq8 (h3 l'.length q (by rw [List.getElem?_append_right (by omega), Nat.sub_self]; rfl)) (fun i hi => ?_)
        rw [if_pos (by omega), mup_n (by decide)]
      · rw [mset_n (by decide), mup_s, upd_s]
      · have hjl := (List.getElem?_eq_some_iff.mp hj).1
        have := h3 j s' (by rw [List.getElem?_append_left hjl]; exact hj)
        rw [mset_n (by decide), mup_n (by decide)]
        exact this
      · rw [mset_n (by decide), mup_s, upd_n (by omega)]
      · rw [mset_n (by decide), mup_n (by decide)]
      · rw [mset_n (by decide), mup_n (by decide)]
theorem b_keep : Both d_X8_keep d_X9_keep := by
  intro A hA
  obtain ⟨⟨S, W⟩, l, o, T⟩ := A
  obtain ⟨a1, a2, a3, a4, a5⟩ := hA
  dsimp only at a1 a2 a3 a4 a5
  refine ⟨I (S 0), ((S, W), l, some (S, W), T), ⟨a1, a2, fun q hq => by cases hq; exact a1, a4, a5⟩, fun M h => ?_, fun M h => ?_⟩
  · unfold d_X8_keep
    simp (disch := first | omega | (unfold sm; omega)) only [wq_bd, wq_some, wq_bnd, wq_ite, bnd_e, bd_some, lit_, neg_I, I_lt, I_le, I_eq, I_add, I_sub, I_mul, I_clamp, chk_I, wchk_I, I_succ, Int.toNat_natCast, Int.reduceToNat, b01, b01I, bd_ite, if_true, if_false, ite_self, reduceIte, Int.reduceLE, Int.reduceLT, Int.reduceAdd, Int.reduceSub, Int.reduceNeg, Nat.reduceEqDiff, Nat.reduceAdd]
    refine wp_mono (copy_cv (k := 2) (q := 0) (by decide) a1.2.2.2.2.2.2.1 h.1) (fun r M1 k => ?_)
    obtain ⟨-, k1, k2⟩ := k
    have hc : cv 0 (mup M1 141 3 (I 1)) (S, W) := cv_congr h.1 (fun j hj => by rw [mup_n (by unfold sI; omega), k2 _ (by unfold sI; omega)])
    refine ⟨(cv_n hc).1, hc, CHist_congr h.2.1 (fun i hi => ?_), ⟨by rw [mup_s, upd_s], cv_congr k1 (fun j hj => ?_)⟩, txC_congr h.2.2.2 (fun i hi => ?_)⟩
    · rw [mup_n (by omega), k2 i (by omega)]
    · rw [mup_n (by unfold sI; omega)]
    · rw [mup_n (by omega), k2 i (by omega)]
  · unfold d_X9_keep
    rw [show (0 : Int32) = I ((0 : Nat) : Int) from rfl, kp_L 366 fuelN 0 M (by omega) (by unfold fuelN; omega)]
    simp (disch := first | omega | (unfold sm; omega)) only [wq_bd, wq_some, wq_bnd, wq_ite, bnd_e, bd_some, lit_, neg_I, I_lt, I_le, I_eq, I_add, I_sub, I_mul, I_clamp, chk_I, wchk_I, I_succ, Int.toNat_natCast, Int.reduceToNat, b01, b01I, bd_ite, if_true, if_false, ite_self, reduceIte, Int.reduceLE, Int.reduceLT, Int.reduceAdd, Int.reduceSub, Int.reduceNeg, Nat.reduceEqDiff, Nat.reduceAdd]
    have hc : (mup (mset M 146 fun j => if 0 ≤ j ∧ j < 366 then M 144 j else M 146 j) 143 4 (I 1)) 144 = M 144 := by rw [mup_n (by decide), mset_n (by decide)]
    refine ⟨?_, ?_, RHist_congr h.2.1 ?_ ?_, ⟨?_, ?_⟩, txR_congr h.2.2.2.1 ?_ ?_, scR_congr h.2.2.2.2 (fun j h1 h2 => ?_)⟩
    · rw [mup_n (by decide), mset_n (by decide)]
      exact (rv_n h.1).1
    · rw [mup_n (by decide), mset_n (by decide)]
      exact h.1
    · rw [mup_s, upd_n (by decide), mset_n (by decide)]
    · rw [mup_n (by decide), mset_n (by decide)]
    · rw [mup_s, upd_s]
    · rw [mup_n (by decide), mset_s]
      refine rv_congr a1.2.2.2.2.2.2.1 h.1 (fun i hi => ?_)
      rw [if_pos (by omega)]
    · rw [mup_s, upd_n (by decide), mset_n (by decide)]
    · rw [mup_n (by decide), mset_n (by decide)]
    · rw [mup_s, upd_n (by omega), mset_n (by decide)]
theorem b_restore : Both d_X8_restore d_X9_restore := by
  intro A hA
  obtain ⟨s, l, o, T⟩ := A
  have hA' := hA
  obtain ⟨a1, a2, a3, a4, a5⟩ := hA
  dsimp only at a1 a2 a3 a4 a5
  cases o with
  | none =>
    refine ⟨I (-5), (s, l, none, T), hA', fun M h => ?_, fun M h => ?_⟩
    · have e : M 141 3 = I 0 := h.2.2.1
      unfold d_X8_restore
      simp (disch := first | omega | (unfold sm; omega)) only [wq_bd, wq_some, wq_bnd, wq_ite, bnd_e, bd_some, lit_, neg_I, I_lt, I_le, I_eq, I_add, I_sub, I_mul, I_clamp, chk_I, wchk_I, I_succ, Int.toNat_natCast, Int.reduceToNat, b01, b01I, bd_ite, if_true, if_false, ite_self, reduceIte, Int.reduceLE, Int.reduceLT, Int.reduceAdd, Int.reduceSub, Int.reduceNeg, Nat.reduceEqDiff, Nat.reduceAdd, e]
      exact ⟨trivial, h⟩
    · have e : M 143 4 = I 0 := h.2.2.1
      unfold d_X9_restore
      simp (disch := first | omega | (unfold sm; omega)) only [wq_bd, wq_some, wq_bnd, wq_ite, bnd_e, bd_some, lit_, neg_I, I_lt, I_le, I_eq, I_add, I_sub, I_mul, I_clamp, chk_I, wchk_I, I_succ, Int.toNat_natCast, Int.reduceToNat, b01, b01I, bd_ite, if_true, if_false, ite_self, reduceIte, Int.reduceLE, Int.reduceLT, Int.reduceAdd, Int.reduceSub, Int.reduceNeg, Nat.reduceEqDiff, Nat.reduceAdd, e]
      exact ⟨trivial, h⟩
  | some q =>
    have hq : SInv q := a3 q rfl
    obtain ⟨S, W⟩ := q
    refine ⟨I (S 0), ((S, W), pushH l s, some (S, W), T), AInv_push hA' hq, fun M h => ?_, fun M h => ?_⟩
    · have e : M 141 3 = I 1 := h.2.2.1.1
      unfold d_X8_restore
      simp (disch := first | omega | (unfold sm; omega)) only [wq_bd, wq_some, wq_bnd, wq_ite, bnd_e, bd_some, lit_, neg_I, I_lt, I_le, I_eq, I_add, I_sub, I_mul, I_clamp, chk_I, wchk_I, I_succ, Int.toNat_natCast, Int.reduceToNat, b01, b01I, bd_ite, if_true, if_false, ite_self, reduceIte, Int.reduceLE, Int.reduceLT, Int.reduceAdd, Int.reduceSub, Int.reduceNeg, Nat.reduceEqDiff, Nat.reduceAdd, e]
      rw [if_neg (by decide)]
      refine cpush hA' h (fun r M1 k => ?_)
      refine wp_mono (copy_cv (k := 0) (q := 2) (by decide) hq.2.2.2.2.2.2.1 k.2.2.1.2) (fun r M2 k2 => ?_)
      obtain ⟨-, k3, k4⟩ := k2
      exact ⟨(cv_n k3).1, CSt_upd k k3 (CHist_congr k.2.1 (fun i hi => k4 i (by omega))) (fun i hi => k4 i (by omega))⟩
    · have e : M 143 4 = I 1 := h.2.2.1.1
      unfold d_X9_restore
      simp (disch := first | omega | (unfold sm; omega)) only [wq_bd, wq_some, wq_bnd, wq_ite, bnd_e, bd_some, lit_, neg_I, I_lt, I_le, I_eq, I_add, I_sub, I_mul, I_clamp, chk_I, wchk_I, I_succ, Int.toNat_natCast, Int.reduceToNat, b01, b01I, bd_ite, if_true, if_false, ite_self, reduceIte, Int.reduceLE, Int.reduceLT, Int.reduceAdd, Int.reduceSub, Int.reduceNeg, Nat.reduceEqDiff, Nat.reduceAdd, e]
      rw [if_neg (by decide)]
      refine rpush hA' h (fun r M1 k k0 => ?_)
      rw [show (I 0 : Int32) = I ((0 : Nat) : Int) from rfl, rst_L 366 fuelN 0 M1 (by omega) (by unfold fuelN; omega)]
      simp (disch := first | omega | (unfold sm; omega)) only [wq_bd, wq_some, wq_bnd, wq_ite, bnd_e, bd_some, lit_, neg_I, I_lt, I_le, I_eq, I_add, I_sub, I_mul, I_clamp, chk_I, wchk_I, I_succ, Int.toNat_natCast, Int.reduceToNat, b01, b01I, bd_ite, if_true, if_false, ite_self, reduceIte, Int.reduceLE, Int.reduceLT, Int.reduceAdd, Int.reduceSub, Int.reduceNeg, Nat.reduceEqDiff, Nat.reduceAdd]
      have hv : rv ((mset M1 144 fun j => if 0 ≤ j ∧ j < 366 then M1 146 j else M1 144 j) 144) (S, W) := by
        rw [mset_s]
        refine rv_congr hq.2.2.2.2.2.2.1 k.2.2.1.2 (fun i hi => ?_)
        rw [if_pos (by omega)]
      refine ⟨(rv_n hv).1, RSt_upd k hv (RHist_congr k.2.1 ?_ ?_) (fun j hj => ?_) ?_ ?_⟩
      · rw [mset_n (by decide)]
      · rw [mset_n (by decide)]
      · rw [mset_n (by decide)]
      · rw [mset_n (by decide)]
      · rw [mset_n (by decide)]
/-! the wishes -/
theorem wv_congr {k : Nat} {M M1 : Mem} {W : List Wi} (h : wv k M W) (e : ∀ j, 12 ≤ j → j < 16 → M1 (sI k j) = M (sI k j)) : wv k M1 W := by
  obtain ⟨h1, h2⟩ := h
  refine ⟨by rw [e 12 (by omega) (by omega)]; exact h1, fun p w hp => ?_⟩
  rw [e 13 (by omega) (by omega), e 14 (by omega) (by omega), e 15 (by omega) (by omega)]
  exact h2 p w hp
theorem cv_w {k : Nat} {M M1 : Mem} {S : Nat → Int} {W W' : List Wi} (h : cv k M (S, W)) (hw : wv k M1 W') (e : ∀ j, j < 12 → M1 (sI k j) = M (sI k j)) : cv k M1 (S, W') := by
  refine cv_cc.mpr ⟨fun i hi h6 => ?_, hw⟩
  have h12 := cO_12 h6
  have hlt := @cO_lt i
  rw [e _ (by omega)]
  exact (cv_cc.mp h).1 i hi h6
theorem has7_I {k : Nat} {M : Mem} {W : List Wi} (hw : wv k M W) (hl : W.length ≤ 8) {a : Int} (ha : -2147483648 ≤ a ∧ a < 2147483648) : d_X7_has k (I a) M = some ((if 0 ≤ a ∧ a < W.length then 1 else 0), M) := by
  have h1 := hw.1
  simp (disch := first | omega | (unfold sm; omega)) only [wq_bd, wq_some, wq_bnd, wq_ite, bnd_e, bd_some, lit_, neg_I, I_lt, I_le, I_eq, I_add, I_sub, I_mul, I_clamp, chk_I, wchk_I, I_succ, Int.toNat_natCast, Int.reduceToNat, b01, b01I, bd_ite, if_true, if_false, ite_self, reduceIte, Int.reduceLE, Int.reduceLT, Int.reduceAdd, Int.reduceSub, Int.reduceNeg, Nat.reduceEqDiff, Nat.reduceAdd, s_has7, h1]
def shW (x n : Nat) (f : Nat → Int32) : Nat → Int32 := fun j => if x ≤ j + 1 ∧ j + 1 < n then f (j + 1) else f j
theorem shW_self (n : Nat) (f : Nat → Int32) (x : Nat) (h : n ≤ x) : shW x n f = f := by
  funext j
  unfold shW
  rw [if_neg (by omega)]
theorem shW_step (n : Nat) (f : Nat → Int32) (x : Nat) (h : x + 1 < n) : shW (x + 2) n (upd f x (f (x + 1))) = shW (x + 1) n f := by
  funext j
  unfold shW
  by_cases hj : j = x
  · subst hj
    rw [if_neg (by omega), upd_s, if_pos (by omega)]
  · by_cases h2 : x + 2 ≤ j + 1 ∧ j + 1 < n
    · rw [if_pos h2, upd_n (by omega), if_pos (by omega)]
    · rw [if_neg h2, upd_n hj, if_neg (by omega)]
theorem mset_mset_self (M : Mem) (a : Nat) : mset M a (M a) = M := mset_self M a (M a) (fun _ => rfl)
theorem take_L {kx : Mem → Ans} {N : Nat} (hN : N ≤ 8) : ∀ (d n x : Nat) (M : Mem), x + 1 + d = N → d < n → M (sI 0 12) 0 = I N → d_X7_takeOut_L13 0 kx n (I (x + 1 : Nat)) M = kx (mset (mset (mset M (sI 0 13) (shW (x + 1) N (M (sI 0 13)))) (sI 0 14) (shW (x + 1) N (M (sI 0 14)))) (sI 0 15) (shW (x + 1) N (M (sI 0 15))))
  | 0, n + 1, x, M, hx, hn, h12 => by
    rw [sd_X7_takeOut_L13, shW_self _ _ _ (by omega), shW_self _ _ _ (by omega), shW_self _ _ _ (by omega)]
    unfold d_X7_takeOut_L13_body
    simp (disch := first | omega | (unfold sm; omega)) only [wq_bd, wq_some, wq_bnd, wq_ite, bnd_e, bd_some, lit_, neg_I, I_lt, I_le, I_eq, I_add, I_sub, I_mul, I_clamp, chk_I, wchk_I, I_succ, Int.toNat_natCast, Int.reduceToNat, b01, b01I, bd_ite, if_true, if_false, ite_self, reduceIte, Int.reduceLE, Int.reduceLT, Int.reduceAdd, Int.reduceSub, Int.reduceNeg, Nat.reduceEqDiff, Nat.reduceAdd, h12]
    rw [if_pos (by omega), mset_self M _ _ (fun _ => rfl), mset_self M _ _ (fun _ => rfl), mset_self M _ _ (fun _ => rfl)]
  | d + 1, n + 1, x, M, hx, hn, h12 => by
    have ih := fun M h => take_L (kx := kx) hN d n (x + 1) M (by omega) (by omega) h
    rw [sd_X7_takeOut_L13]
    unfold d_X7_takeOut_L13_body
    simp (disch := first | omega | (unfold sm; omega)) only [wq_bd, wq_some, wq_bnd, wq_ite, bnd_e, bd_some, lit_, neg_I, I_lt, I_le, I_eq, I_add, I_sub, I_mul, I_clamp, chk_I, wchk_I, I_succ, Int.toNat_natCast, Int.reduceToNat, b01, b01I, bd_ite, if_true, if_false, ite_self, reduceIte, Int.reduceLE, Int.reduceLT, Int.reduceAdd, Int.reduceSub, Int.reduceNeg, Nat.reduceEqDiff, Nat.reduceAdd, h12]
    rw [if_neg (by omega)]
    rw [show (((x + 1 : Nat) : Int) - 1) = (x : Int) by omega]
    simp (disch := first | omega | (unfold sm; omega)) only [wq_bd, wq_some, wq_bnd, wq_ite, bnd_e, bd_some, lit_, neg_I, I_lt, I_le, I_eq, I_add, I_sub, I_mul, I_clamp, chk_I, wchk_I, I_succ, Int.toNat_natCast, Int.reduceToNat, b01, b01I, bd_ite, if_true, if_false, ite_self, reduceIte, Int.reduceLE, Int.reduceLT, Int.reduceAdd, Int.reduceSub, Int.reduceNeg, Nat.reduceEqDiff, Nat.reduceAdd]
    rw [ih _ (by rw [mup_n (by decide), mup_n (by decide), mup_n (by decide)]; exact h12)]
    congr 1
    rw [show x + 1 + 1 = x + 2 from rfl]
    funext a
    by_cases e15 : a = sI 0 15
    · subst e15
      rw [mset_s, mup_s, mset_s, mup_n (by decide), mup_n (by decide), shW_step N (M (sI 0 15)) x (by omega)]
    · rw [mset_n e15, mset_n e15]
      by_cases e14 : a = sI 0 14
      · subst e14
        rw [mset_s, mset_s, mup_n (by decide), mup_s, mup_n (by decide), shW_step N (M (sI 0 14)) x (by omega)]
      · rw [mset_n e14, mset_n e14]
        by_cases e13 : a = sI 0 13
        · subst e13
          rw [mset_s, mset_s, mup_n (by decide), mup_n (by decide), mup_s, shW_step N (M (sI 0 13)) x (by omega)]
        · rw [mset_n e13, mset_n e13, mup_n e15, mup_n e14, mup_n e13]
  | _, 0, _, _, _, hn, _ => absurd hn (by omega)
theorem er_get {α : Type} (W : List α) (p j : Nat) : (W.eraseIdx p)[j]? = if j < p then W[j]? else W[j + 1]? := List.getElem?_eraseIdx
theorem take_spec {M : Mem} {W : List Wi} {p : Nat} (hw : wv 0 M W) (hl : W.length ≤ 8) (hp : p < W.length) : wp (d_X7_takeOut 0 (I p) M) (fun _ M1 => wv 0 M1 (W.eraseIdx p) ∧ ∀ i, i < 12 ∨ 16 ≤ i → M1 i = M i) := by
  have h7 := has7_I hw hl (a := (p : Int)) (by omega)
  have h12 := hw.1
  unfold d_X7_takeOut
  simp (disch := first | omega | (unfold sm; omega)) only [wq_bd, wq_some, wq_bnd, wq_ite, bnd_e, bd_some, lit_, neg_I, I_lt, I_le, I_eq, I_add, I_sub, I_mul, I_clamp, chk_I, wchk_I, I_succ, Int.toNat_natCast, Int.reduceToNat, b01, b01I, bd_ite, if_true, if_false, ite_self, reduceIte, Int.reduceLE, Int.reduceLT, Int.reduceAdd, Int.reduceSub, Int.reduceNeg, Nat.reduceEqDiff, Nat.reduceAdd, h7]
  rw [if_neg (by omega)]
  rw [take_L (N := W.length) hl (W.length - (p + 1)) fuelN p M (by omega) (by unfold fuelN; omega) h12]
  simp (disch := first | omega | (unfold sm; omega)) only [wq_bd, wq_some, wq_bnd, wq_ite, bnd_e, bd_some, lit_, neg_I, I_lt, I_le, I_eq, I_add, I_sub, I_mul, I_clamp, chk_I, wchk_I, I_succ, Int.toNat_natCast, Int.reduceToNat, b01, b01I, bd_ite, if_true, if_false, ite_self, reduceIte, Int.reduceLE, Int.reduceLT, Int.reduceAdd, Int.reduceSub, Int.reduceNeg, Nat.reduceEqDiff, Nat.reduceAdd]
  have hlen : (W.eraseIdx p).length = W.length - 1 := List.length_eraseIdx_of_lt hp
  refine ⟨⟨?_, fun j w hj => ?_⟩, fun i hi => ?_⟩
  · rw [mup_s, upd_s, mset_n (by decide), mset_n (by decide), mset_n (by decide), h12, hlen]
    simp (disch := first | omega | (unfold sm; omega)) only [wq_bd, wq_some, wq_bnd, wq_ite, bnd_e, bd_some, lit_, neg_I, I_lt, I_le, I_eq, I_add, I_sub, I_mul, I_clamp, chk_I, wchk_I, I_succ, Int.toNat_natCast, Int.reduceToNat, b01, b01I, bd_ite, if_true, if_false, ite_self, reduceIte, Int.reduceLE, Int.reduceLT, Int.reduceAdd, Int.reduceSub, Int.reduceNeg, Nat.reduceEqDiff, Nat.reduceAdd]
    congr 1
    omega
  · have hjl := (List.getElem?_eq_some_iff.mp hj).1
    rw [hlen] at hjl
    rw [mup_n (by decide), mset_n (by decide), mset_n (by decide), mset_s, mup_n (by decide), mset_n (by decide), mset_s, mup_n (by decide), mset_s]
    rw [er_get] at hj
    unfold shW
    by_cases h : j < p
    · rw [if_pos h] at hj
      rw [if_neg (by omega), if_neg (by omega), if_neg (by omega)]
      exact hw.2 j w hj
    · rw [if_neg h] at hj
      rw [if_pos (by omega), if_pos (by omega), if_pos (by omega)]
      exact hw.2 (j + 1) w hj
  · rw [mup_n (by unfold sI; omega), mset_n (by unfold sI; omega), mset_n (by unfold sI; omega), mset_n (by unfold sI; omega)]
theorem wapp_spec {M : Mem} {W : List Wi} {a b c : Int} (hw : wv 0 M W) (hl : W.length < 8) : wp (d_X7_append 0 (I a) (I b) (I c) M) (fun r M1 => r = I (W.length + 1 : Nat) ∧ wv 0 M1 (W ++ [(a, b, c)]) ∧ ∀ i, i < 12 ∨ 16 ≤ i → M1 i = M i) := by
  have h12 := hw.1
  unfold d_X7_append
  simp (disch := first | omega | (unfold sm; omega)) only [wq_bd, wq_some, wq_bnd, wq_ite, bnd_e, bd_some, lit_, neg_I, I_lt, I_le, I_eq, I_add, I_sub, I_mul, I_clamp, chk_I, wchk_I, I_succ, Int.toNat_natCast, Int.reduceToNat, b01, b01I, bd_ite, if_true, if_false, ite_self, reduceIte, Int.reduceLE, Int.reduceLT, Int.reduceAdd, Int.reduceSub, Int.reduceNeg, Nat.reduceEqDiff, Nat.reduceAdd, h12, mup_n (show sI 0 12 ≠ sI 0 13 by decide), mup_n (show sI 0 12 ≠ sI 0 14 by decide), mup_n (show sI 0 12 ≠ sI 0 15 by decide), mup_s, upd_s]
  rw [if_neg (by omega)]
  have hlen : (W ++ [(a, b, c)]).length = W.length + 1 := by rw [List.length_append]; rfl
  refine ⟨trivial, ⟨?_, fun j w hj => ?_⟩, fun i hi => ?_⟩
  · rw [mup_s, upd_s, hlen]
  · have e13 : ∀ v v' v'' u : Int32, mup (mup (mup (mup M (sI 0 13) W.length v) (sI 0 14) W.length v') (sI 0 15) W.length v'') (sI 0 12) 0 u (sI 0 13) = upd (M (sI 0 13)) W.length v := fun v v' v'' u => by rw [mup_n (by decide), mup_n (by decide), mup_n (by decide), mup_s]
    have e14 : ∀ v v' v'' u : Int32, mup (mup (mup (mup M (sI 0 13) W.length v) (sI 0 14) W.length v') (sI 0 15) W.length v'') (sI 0 12) 0 u (sI 0 14) = upd (M (sI 0 14)) W.length v' := fun v v' v'' u => by rw [mup_n (by decide), mup_n (by decide), mup_s, mup_n (by decide)]
    have e15 : ∀ v v' v'' u : Int32, mup (mup (mup (mup M (sI 0 13) W.length v) (sI 0 14) W.length v') (sI 0 15) W.length v'') (sI 0 12) 0 u (sI 0 15) = upd (M (sI 0 15)) W.length v'' := fun v v' v'' u => by rw [mup_n (by decide), mup_s, mup_n (by decide), mup_n (by decide)]
    rw [e13, e14, e15]
    by_cases h : j < W.length
    · rw [List.getElem?_append_left h] at hj
      rw [upd_n (by omega), upd_n (by omega), upd_n (by omega)]
      exact hw.2 j w hj
    · have hb := (List.getElem?_eq_some_iff.mp hj).1
      rw [hlen] at hb
      have ej : j = W.length := by omega
      subst ej
      rw [List.getElem?_append_right (by omega), Nat.sub_self] at hj
      cases hj
      rw [upd_s, upd_s, upd_s]
      exact ⟨rfl, rfl, rfl⟩
  · rw [mup_n (by unfold sI; omega), mup_n (by unfold sI; omega), mup_n (by unfold sI; omega), mup_n (by unfold sI; omega)]
theorem leaves_L {kx : Mem → Ans} {m : Nat} (hm : m ≤ 7) : ∀ (d n x : Nat) (M : Mem), x + d = 3 * m → d < n → M 144 6 = I m → d_X9_leaves_L15 kx n (I x) M = kx (mset M 144 (fun j => if 342 + x ≤ j ∧ j < 342 + 3 * m then M 144 (j + 3) else M 144 j))
  | 0, n + 1, x, M, hx, hn, h6 => by
    rw [sd_X9_leaves_L15]
    unfold d_X9_leaves_L15_body
    simp (disch := first | omega | (unfold sm; omega)) only [wq_bd, wq_some, wq_bnd, wq_ite, bnd_e, bd_some, lit_, neg_I, I_lt, I_le, I_eq, I_add, I_sub, I_mul, I_clamp, chk_I, wchk_I, I_succ, Int.toNat_natCast, Int.reduceToNat, b01, b01I, bd_ite, if_true, if_false, ite_self, reduceIte, Int.reduceLE, Int.reduceLT, Int.reduceAdd, Int.reduceSub, Int.reduceNeg, Nat.reduceEqDiff, Nat.reduceAdd, h6]
    rw [if_pos (by omega), mset_self]
    intro j
    rw [if_neg (by omega)]
  | d + 1, n + 1, x, M, hx, hn, h6 => by
    have ih := fun M h => leaves_L (kx := kx) hm d n (x + 1) M (by omega) (by omega) h
    rw [sd_X9_leaves_L15]
    unfold d_X9_leaves_L15_body
    simp (disch := first | omega | (unfold sm; omega)) only [wq_bd, wq_some, wq_bnd, wq_ite, bnd_e, bd_some, lit_, neg_I, I_lt, I_le, I_eq, I_add, I_sub, I_mul, I_clamp, chk_I, wchk_I, I_succ, Int.toNat_natCast, Int.reduceToNat, b01, b01I, bd_ite, if_true, if_false, ite_self, reduceIte, Int.reduceLE, Int.reduceLT, Int.reduceAdd, Int.reduceSub, Int.reduceNeg, Nat.reduceEqDiff, Nat.reduceAdd, h6]
    rw [if_neg (by omega), ih _ (by rw [mup_s, upd_n (by omega)]; exact h6)]
    rw [show ((342 : Int) + (x : Int)).toNat = 342 + x by omega, show ((342 : Int) + (x : Int) + 3).toNat = 342 + x + 3 by omega]
    congr 1
    funext a b
    simp only [mset_a, mup_a]
    by_cases ha : a = 144
    · simp only [ha, if_true]
      by_cases hb : b = 342 + x
      · subst hb
        rw [if_neg (by omega), if_pos rfl, if_pos (by omega)]
      · by_cases hb2 : 342 + (x + 1) ≤ b ∧ b < 342 + 3 * m
        · rw [if_pos hb2, if_neg (by omega), if_pos (by omega)]
        · rw [if_neg hb2, if_neg hb, if_neg (by omega)]
    · simp only [ha, if_false]
  | _, 0, _, _, _, hn, _ => absurd hn (by omega)
theorem leaves_spec {M : Mem} {S : Nat → Int} {W : List Wi} {p : Nat} (hr : rv (M 144) (S, W)) (hl : W.length ≤ 8) (hp : p < W.length) : wp (d_X9_leaves (I p) M) (fun _ M1 => rv (M1 144) (S, W.eraseIdx p) ∧ ∀ i, i ≠ 144 → M1 i = M i) := by
  have h6 := (rv_n hr).2.2.2.2.2.2.1
  have hlen : (W.eraseIdx p).length = W.length - 1 := List.length_eraseIdx_of_lt hp
  unfold d_X9_leaves
  simp (disch := first | omega | (unfold sm; omega)) only [wq_bd, wq_some, wq_bnd, wq_ite, bnd_e, bd_some, lit_, neg_I, I_lt, I_le, I_eq, I_add, I_sub, I_mul, I_clamp, chk_I, wchk_I, I_succ, Int.toNat_natCast, Int.reduceToNat, b01, b01I, bd_ite, if_true, if_false, ite_self, reduceIte, Int.reduceLE, Int.reduceLT, Int.reduceAdd, Int.reduceSub, Int.reduceNeg, Nat.reduceEqDiff, Nat.reduceAdd, h6]
  rw [show ((3 : Int) * (p : Int)) = ((3 * p : Nat) : Int) by omega]
  rw [leaves_L (m := W.length - 1) (by omega) (3 * (W.length - 1) - 3 * p) fuelN (3 * p) _ (by omega) (by unfold fuelN; omega) (by rw [mup_s, upd_s]; congr 1; omega)]
  rw [wq_some]
  refine ⟨?_, fun i hi => by rw [mset_n hi, mup_n hi]⟩
  rw [mset_s, mup_s]
  refine ⟨fun i hi h => ?_, ?_, fun j w hj => ?_⟩
  · dsimp only
    rw [if_neg (by omega), upd_n (by omega)]
    exact hr.1 i hi h
  · dsimp only
    rw [if_neg (by omega), upd_s, hlen]
    congr 1
    omega
  · dsimp only at hj
    have hjl := (List.getElem?_eq_some_iff.mp hj).1
    rw [hlen] at hjl
    rw [er_get] at hj
    by_cases h : j < p
    · rw [if_pos h] at hj
      dsimp only
      rw [if_neg (by omega), if_neg (by omega), if_neg (by omega), upd_n (by omega), upd_n (by omega), upd_n (by omega)]
      exact hr.2.2 j w hj
    · rw [if_neg h] at hj
      dsimp only
      rw [if_pos (by omega), if_pos (by omega), if_pos (by omega), upd_n (by omega), upd_n (by omega), upd_n (by omega)]
      obtain ⟨w1, w2, w3⟩ := hr.2.2 (j + 1) w hj
      refine ⟨(congrArg (M 144) (by omega)).trans w1, (congrArg (M 144) (by omega)).trans w2, (congrArg (M 144) (by omega)).trans w3⟩
/-! wishes that are dropped -/
def qW (t : Int) (w : Wi) : Bool := decide (t < w.2.2 + 20)
theorem er_td {α : Type} (W : List α) (x : Nat) : W.eraseIdx x = W.take x ++ W.drop (x + 1) := List.eraseIdx_eq_take_drop_succ W x
theorem er_take {α : Type} (W : List α) (x : Nat) (h : x < W.length) : (W.eraseIdx x).take x = W.take x := by
  rw [er_td, List.take_append_of_le_length (by rw [List.length_take]; omega), List.take_take]
  congr 1
  omega
theorem er_drop {α : Type} (W : List α) (x : Nat) (h : x < W.length) : (W.eraseIdx x).drop x = W.drop (x + 1) := by
  rw [er_td]
  exact List.drop_left' (by rw [List.length_take]; omega)
theorem dropU_L {tk : Int} (ht : 0 ≤ tk ∧ tk ≤ 100000) {kx : Int32 → Mem → Ans} {Q : Int32 → Mem → Prop} : ∀ (x n : Nat) (M : Mem) (W : List Wi) (a : Int), wv 0 M W → W.length ≤ 8 → x ≤ W.length → x < n → (∀ w ∈ W, 0 ≤ w.2.2 ∧ w.2.2 ≤ 100000) → (∀ M1, wv 0 M1 ((W.take x).filter (qW tk) ++ W.drop x) → (∀ i, i < 12 ∨ 16 ≤ i → M1 i = M i) → wp (kx (I (a + (((W.take x).filter (fun w => !qW tk w)).length : Nat))) M1) Q) → wp (d_X7_dropUntil_L9 0 (I tk) kx n (I a) (I ((x : Int) - 1)) M) Q
  | 0, n + 1, M, W, a, hw, hl, hx, hn, hb, k => by
    rw [sd_X7_dropUntil_L9]
    unfold d_X7_dropUntil_L9_body
    simp (disch := first | omega | (unfold sm; omega)) only [wq_bd, wq_some, wq_bnd, wq_ite, bnd_e, bd_some, lit_, neg_I, I_lt, I_le, I_eq, I_add, I_sub, I_mul, I_clamp, chk_I, wchk_I, I_succ, Int.toNat_natCast, Int.reduceToNat, b01, b01I, bd_ite, if_true, if_false, ite_self, reduceIte, Int.reduceLE, Int.reduceLT, Int.reduceAdd, Int.reduceSub, Int.reduceNeg, Nat.reduceEqDiff, Nat.reduceAdd]
    rw [if_pos (by omega)]
    have := k M (by simpa using hw) (fun i _ => rfl)
    simpa using this
  | x + 1, n + 1, M, W, a, hw, hl, hx, hn, hb, k => by
    have hget : W[x]? = some W[x] := List.getElem?_eq_getElem (by omega)
    have h15 := (hw.2 x _ hget).2.2
    have hbx := hb _ (List.getElem_mem (by omega : x < W.length))
    have etake : W.take (x + 1) = W.take x ++ [W[x]] := List.take_succ_eq_append_getElem (by omega)
    have edrop : W.drop x = W[x] :: W.drop (x + 1) := List.drop_eq_getElem_cons (by omega)
    rw [sd_X7_dropUntil_L9]
    unfold d_X7_dropUntil_L9_body
    rw [show (((x + 1 : Nat) : Int) - 1) = (x : Int) by omega]
    simp (disch := first | omega | (unfold sm; omega)) only [wq_bd, wq_some, wq_bnd, wq_ite, bnd_e, bd_some, lit_, neg_I, I_lt, I_le, I_eq, I_add, I_sub, I_mul, I_clamp, chk_I, wchk_I, I_succ, Int.toNat_natCast, Int.reduceToNat, b01, b01I, bd_ite, if_true, if_false, ite_self, reduceIte, Int.reduceLE, Int.reduceLT, Int.reduceAdd, Int.reduceSub, Int.reduceNeg, Nat.reduceEqDiff, Nat.reduceAdd, h15, d_X7_dropUntil_B34]
    rw [if_neg (by omega)]
    by_cases c : tk < W[x].2.2 + 20
    · rw [if_pos c]
      refine dropU_L ht x n M W a hw hl (by omega) (by omega) hb (fun M1 h1 h2 => ?_)
      have hq : qW tk W[x] = true := decide_eq_true c
      have e1 : [W[x]].filter (qW tk) = [W[x]] := by rw [List.filter_cons, hq]; rfl
      have e2 : [W[x]].filter (fun w => !qW tk w) = [] := by rw [List.filter_cons, hq]; rfl
      have := k M1 (by rw [etake, List.filter_append, e1, List.append_assoc, List.singleton_append, ← edrop]; exact h1) h2
      rw [etake, List.filter_append, e2, List.append_nil] at this
      exact this
    · rw [if_neg c]
      refine wp_mono (take_spec hw hl (by omega)) (fun r M2 q => ?_)
      obtain ⟨q1, q2⟩ := q
      have hle : (W.eraseIdx x).length = W.length - 1 := List.length_eraseIdx_of_lt (by omega)
      refine dropU_L ht x n M2 (W.eraseIdx x) (a + 1) q1 (by omega) (by omega) (by omega) (fun w hw' => hb w (List.mem_of_mem_eraseIdx hw')) (fun M1 h1 h2 => ?_)
      rw [er_take W x (by omega), er_drop W x (by omega)] at h1
      rw [er_take W x (by omega)]
      have hq : qW tk W[x] = false := decide_eq_false c
      have e1 : [W[x]].filter (qW tk) = [] := by rw [List.filter_cons, hq]; rfl
      have := k M1 (by rw [etake, List.filter_append, e1, List.append_nil]; exact h1) (fun i hi => (h2 i hi).trans (q2 i hi))
      rw [etake, List.filter_append] at this
      have e : (List.filter (fun w => !qW tk w) [W[x]]).length = 1 := by rw [List.filter_cons, hq]; rfl
      rw [List.length_append, e] at this
      rw [show a + 1 + ((List.filter (fun w => !qW tk w) (List.take x W)).length : Int) = a + (((List.filter (fun w => !qW tk w) (List.take x W)).length + 1 : Nat) : Int) by omega]
      exact this
  | _, 0, _, _, _, _, _, _, hn, _, _ => absurd hn (by omega)
theorem dropU_spec {M : Mem} {W : List Wi} {tk : Int} (ht : 0 ≤ tk ∧ tk ≤ 100000) (hw : wv 0 M W) (hl : W.length ≤ 8) (hb : ∀ w ∈ W, 0 ≤ w.2.2 ∧ w.2.2 ≤ 100000) : wp (d_X7_dropUntil 0 (I tk) M) (fun r M1 => r = I ((W.filter (fun w => !qW tk w)).length : Nat) ∧ wv 0 M1 (W.filter (qW tk)) ∧ ∀ i, i < 12 ∨ 16 ≤ i → M1 i = M i) := by
  have h12 := hw.1
  unfold d_X7_dropUntil
  simp (disch := first | omega | (unfold sm; omega)) only [wq_bd, wq_some, wq_bnd, wq_ite, bnd_e, bd_some, lit_, neg_I, I_lt, I_le, I_eq, I_add, I_sub, I_mul, I_clamp, chk_I, wchk_I, I_succ, Int.toNat_natCast, Int.reduceToNat, b01, b01I, bd_ite, if_true, if_false, ite_self, reduceIte, Int.reduceLE, Int.reduceLT, Int.reduceAdd, Int.reduceSub, Int.reduceNeg, Nat.reduceEqDiff, Nat.reduceAdd, h12]
  refine dropU_L ht W.length fuelN M W 0 hw hl (by omega) (by unfold fuelN; omega) hb (fun M1 h1 h2 => ?_)
  rw [wq_some]
  rw [List.take_length, List.drop_length, List.append_nil] at h1
  refine ⟨?_, h1, h2⟩
  rw [List.take_length, Int.zero_add]
theorem rdrop_L {tk : Int} (ht : 0 ≤ tk ∧ tk ≤ 100000) {a1 : Int32} {kx : Mem → Ans} {Q : Int32 → Mem → Prop} : ∀ (d n x : Nat) (M : Mem) (S : Nat → Int) (W : List Wi), x + d = W.length → d < n → rv (M 144) (S, W) → S 0 = tk → W.length ≤ 8 → (∀ w ∈ W, 0 ≤ w.2.2 ∧ w.2.2 ≤ 100000) → (∀ M1, rv (M1 144) (setS S 8 (S 8 + (((W.drop x).filter (fun w => !qW tk w)).length : Nat)), W.take x ++ (W.drop x).filter (qW tk)) → (∀ i, i ≠ 144 → M1 i = M i) → wp (kx M1) Q) → wp (d_X9_aTick_L99 a1 kx n (I x) M) Q
  | 0, n + 1, x, M, S, W, hx, hn, hr, h0, hl, hb, k => by
    have h6 := (rv_n hr).2.2.2.2.2.2.1
    rw [sd_X9_aTick_L99]
    unfold d_X9_aTick_L99_body
    simp (disch := first | omega | (unfold sm; omega)) only [wq_bd, wq_some, wq_bnd, wq_ite, bnd_e, bd_some, lit_, neg_I, I_lt, I_le, I_eq, I_add, I_sub, I_mul, I_clamp, chk_I, wchk_I, I_succ, Int.toNat_natCast, Int.reduceToNat, b01, b01I, bd_ite, if_true, if_false, ite_self, reduceIte, Int.reduceLE, Int.reduceLT, Int.reduceAdd, Int.reduceSub, Int.reduceNeg, Nat.reduceEqDiff, Nat.reduceAdd, h6]
    rw [if_pos (by omega)]
    refine k M ?_ (fun i _ => rfl)
    rw [List.drop_eq_nil_of_le (by omega), List.take_of_length_le (by omega)]
    simp only [List.filter_nil, List.length_nil, List.append_nil]
    have e : setS S 8 (S 8 + ((0 : Nat) : Int)) = S := by
      funext j
      unfold setS
      split
      · rename_i h; rw [h]; omega
      · rfl
    rw [e]
    exact hr
  | d + 1, n + 1, x, M, S, W, hx, hn, hr, h0, hl, hb, k => by
    have h6 := (rv_n hr).2.2.2.2.2.2.1
    have e0 := (rv_n hr).1
    have hget : W[x]? = some W[x] := List.getElem?_eq_getElem (by omega)
    obtain ⟨-, -, o2⟩ := rofW hr hl hget
    have hbx := hb _ (List.getElem_mem (by omega : x < W.length))
    have etake : W.take (x + 1) = W.take x ++ [W[x]] := List.take_succ_eq_append_getElem (by omega)
    have edrop : W.drop x = W[x] :: W.drop (x + 1) := List.drop_eq_getElem_cons (by omega)
    rw [sd_X9_aTick_L99]
    unfold d_X9_aTick_L99_body
    simp (disch := first | omega | (unfold sm; omega)) only [wq_bd, wq_some, wq_bnd, wq_ite, bnd_e, bd_some, lit_, neg_I, I_lt, I_le, I_eq, I_add, I_sub, I_mul, I_clamp, chk_I, wchk_I, I_succ, Int.toNat_natCast, Int.reduceToNat, b01, b01I, bd_ite, if_true, if_false, ite_self, reduceIte, Int.reduceLE, Int.reduceLT, Int.reduceAdd, Int.reduceSub, Int.reduceNeg, Nat.reduceEqDiff, Nat.reduceAdd, h6, e0, o2, h0]
    rw [if_neg (by omega)]
    by_cases c : tk < W[x].2.2 + 20
    · rw [if_pos c]
      refine rdrop_L ht d n (x + 1) M S W (by omega) (by omega) hr h0 hl hb (fun M1 h1 h2 => ?_)
      refine k M1 ?_ h2
      have hq : qW tk W[x] = true := decide_eq_true c
      have e1 : (W.drop x).filter (qW tk) = W[x] :: (W.drop (x + 1)).filter (qW tk) := by rw [edrop, List.filter_cons, hq]; rfl
      have e2 : (W.drop x).filter (fun w => !qW tk w) = (W.drop (x + 1)).filter (fun w => !qW tk w) := by rw [edrop, List.filter_cons, hq]; rfl
      rw [etake, List.append_assoc, List.singleton_append, ← e1, ← e2] at h1
      exact h1
    · rw [if_neg c]
      refine wp_mono (leaves_spec hr hl (by omega)) (fun r M2 q => ?_)
      obtain ⟨q1, q2⟩ := q
      have hle : (W.eraseIdx x).length = W.length - 1 := List.length_eraseIdx_of_lt (by omega)
      have e8 := (rv_n q1).2.2.2.2.2.2.2.2.1
      simp (disch := first | omega | (unfold sm; omega)) only [wq_bd, wq_some, wq_bnd, wq_ite, bnd_e, bd_some, lit_, neg_I, I_lt, I_le, I_eq, I_add, I_sub, I_mul, I_clamp, chk_I, wchk_I, I_succ, Int.toNat_natCast, Int.reduceToNat, b01, b01I, bd_ite, if_true, if_false, ite_self, reduceIte, Int.reduceLE, Int.reduceLT, Int.reduceAdd, Int.reduceSub, Int.reduceNeg, Nat.reduceEqDiff, Nat.reduceAdd, e8]
      refine rdrop_L ht d n x _ (setS S 8 (S 8 + 1)) (W.eraseIdx x) (by omega) (by omega) ?_ ?_ (by omega) (fun w hw' => hb w (List.mem_of_mem_eraseIdx hw')) (fun M1 h1 h2 => ?_)
      · rw [mup_s]
        exact rv_set q1 (by decide) (by decide) _
      · rw [setS_n (by decide)]; exact h0
      · rw [er_take W x (by omega), er_drop W x (by omega)] at h1
        refine k M1 ?_ (fun i hi => (h2 i hi).trans ((mup_n hi).trans (q2 i hi)))
        have e : setS (setS S 8 (S 8 + 1)) 8 (setS S 8 (S 8 + 1) 8 + (((W.drop (x + 1)).filter (fun w => !qW tk w)).length : Nat)) = setS S 8 (S 8 + (((W.drop x).filter (fun w => !qW tk w)).length : Nat)) := by
          funext j
          rw [setS_s]
          unfold setS
          split
          · rw [edrop, List.filter_cons]
            have : qW tk W[x] = false := by unfold qW; exact decide_eq_false c
            rw [this]
            simp only [Bool.not_false, if_true, List.length_cons]
            omega
          · rfl
        rw [e] at h1
        have e2 : (W.drop x).filter (qW tk) = (W.drop (x + 1)).filter (qW tk) := by
          rw [edrop, List.filter_cons]
          have : qW tk W[x] = false := by unfold qW; exact decide_eq_false c
          rw [this]
          rfl
        rw [e2]
        exact h1
  | _, 0, _, _, _, _, _, hn, _, _, _, _, _ => absurd hn (by omega)
/-! recipes, wishes, most -/
theorem SI_W {S : Nat → Int} {W W' : List Wi} (h : SInv (S, W)) (hl : W'.length ≤ 8) (hw : ∀ w ∈ W', w ∈ W) : SInv (S, W') := by
  obtain ⟨h0, h1, h2, h3, h4, h5, -, h7, h8, h9⟩ := h
  exact ⟨h0, h1, h2, h3, h4, h5, hl, h7, h8, fun w hh => h9 w (hw w hh)⟩
theorem robot_I {a : Int} (ha : -2147483648 ≤ a ∧ a < 2147483648) (M : Mem) : d_X8_isRobot (I a) M = some ((if 0 ≤ a ∧ a ≤ 5 then 1 else 0), M) ∧ d_X9_noRobot (I a) M = some ((if 0 ≤ a ∧ a ≤ 5 then 0 else 1), M) := by
  rw [s_isRobot, s_noRobot]
  simp (disch := first | omega | (unfold sm; omega)) only [wq_bd, wq_some, wq_bnd, wq_ite, bnd_e, bd_some, lit_, neg_I, I_lt, I_le, I_eq, I_add, I_sub, I_mul, I_clamp, chk_I, wchk_I, I_succ, Int.toNat_natCast, Int.reduceToNat, b01, b01I, bd_ite, if_true, if_false, ite_self, reduceIte, Int.reduceLE, Int.reduceLT, Int.reduceAdd, Int.reduceSub, Int.reduceNeg, Nat.reduceEqDiff, Nat.reduceAdd]
  exact ⟨trivial, trivial⟩
theorem b10 {c : Prop} [Decidable c] : ((if c then (0 : Int32) else 1) = 0) = c := by
  by_cases h : c
  · rw [if_pos h]; exact propext ⟨fun e => h, fun e => rfl⟩
  · rw [if_neg h]; exact propext ⟨fun e => absurd e (by decide), fun e => absurd e h⟩
theorem b10I {c : Prop} [Decidable c] : ((if c then I 0 else I 1) = I 0) = c := b10
theorem noRec_I {M : Mem} {S : Nat → Int} {W : List Wi} (hr : rv (M 144) (S, W)) (hi : SInv (S, W)) {a : Int} (ha : -2147483648 ≤ a ∧ a < 2147483648) : d_X9_noRecipe (I a) M = some ((if 0 ≤ a ∧ a < S 4 then 0 else 1), M) := by
  have e4 := (rv_n hr).2.2.2.2.1
  have h4 := (si_n hi).2.2.2.2.1
  rw [s_noRecipe, e4]
  simp (disch := first | omega | (unfold sm; omega)) only [wq_bd, wq_some, wq_bnd, wq_ite, bnd_e, bd_some, lit_, neg_I, I_lt, I_le, I_eq, I_add, I_sub, I_mul, I_clamp, chk_I, wchk_I, I_succ, Int.toNat_natCast, Int.reduceToNat, b01, b01I, bd_ite, if_true, if_false, ite_self, reduceIte, Int.reduceLE, Int.reduceLT, Int.reduceAdd, Int.reduceSub, Int.reduceNeg, Nat.reduceEqDiff, Nat.reduceAdd]
  by_cases c : 0 ≤ a ∧ a < S 4
  · rw [if_pos c, if_pos (by omega)]
  · rw [if_neg c, if_neg (by omega)]
theorem noBk_I {M : Mem} {S : Nat → Int} {W : List Wi} (hr : rv (M 144) (S, W)) (hi : SInv (S, W)) {a : Int} (ha : -2147483648 ≤ a ∧ a < 2147483648) : d_X9_noBooking (I a) M = some ((if 0 ≤ a ∧ a < S 5 then 0 else 1), M) := by
  have e4 := (rv_n hr).2.2.2.2.2.1
  have h4 := (si_n hi).2.2.2.2.2.1
  rw [s_noBooking, e4]
  simp (disch := first | omega | (unfold sm; omega)) only [wq_bd, wq_some, wq_bnd, wq_ite, bnd_e, bd_some, lit_, neg_I, I_lt, I_le, I_eq, I_add, I_sub, I_mul, I_clamp, chk_I, wchk_I, I_succ, Int.toNat_natCast, Int.reduceToNat, b01, b01I, bd_ite, if_true, if_false, ite_self, reduceIte, Int.reduceLE, Int.reduceLT, Int.reduceAdd, Int.reduceSub, Int.reduceNeg, Nat.reduceEqDiff, Nat.reduceAdd]
  by_cases c : 0 ≤ a ∧ a < S 5
  · rw [if_pos c, if_pos (by omega)]
  · rw [if_neg c, if_neg (by omega)]
theorem b_unwish (p : Int32) : Both (d_X8_unwish p) (d_X9_unwish p) := by
  obtain ⟨a, ha, rfl⟩ := of_I p
  intro A hA
  obtain ⟨⟨S, W⟩, l, o, T⟩ := A
  have hi : SInv (S, W) := hA.1
  have hl := (si_n hi).2.2.2.2.2.2
  by_cases c : 0 ≤ a ∧ a < W.length
  · obtain ⟨q, rfl⟩ : ∃ q : Nat, a = q := ⟨a.toNat, by omega⟩
    have hget : W[q]? = some W[q] := List.getElem?_eq_getElem (by omega)
    have hlen : (W.eraseIdx q).length = W.length - 1 := List.length_eraseIdx_of_lt (by omega)
    have hi' : SInv (S, W.eraseIdx q) := SI_W hi (by omega) (fun w hw => List.mem_of_mem_eraseIdx hw)
    refine ⟨I W[q].2.1, ((S, W.eraseIdx q), pushH l (S, W), o, T), AInv_push hA hi', fun M h => ?_, fun M h => ?_⟩
    · have hc := cv_cc.mp h.1
      unfold d_X8_unwish
      rw [has7_I hc.2 hl ha]
      simp (disch := first | omega | (unfold sm; omega)) only [wq_bd, wq_some, wq_bnd, wq_ite, bnd_e, bd_some, lit_, neg_I, I_lt, I_le, I_eq, I_add, I_sub, I_mul, I_clamp, chk_I, wchk_I, I_succ, Int.toNat_natCast, Int.reduceToNat, b01, b01I, bd_ite, if_true, if_false, ite_self, reduceIte, Int.reduceLE, Int.reduceLT, Int.reduceAdd, Int.reduceSub, Int.reduceNeg, Nat.reduceEqDiff, Nat.reduceAdd]
      rw [if_neg (fun h => h c)]
      refine cpush hA h (fun r M1 k => ?_)
      have hc1 := cv_cc.mp k.1
      have h14 := (hc1.2.2 q _ hget).2.1
      simp (disch := first | omega | (unfold sm; omega)) only [wq_bd, wq_some, wq_bnd, wq_ite, bnd_e, bd_some, lit_, neg_I, I_lt, I_le, I_eq, I_add, I_sub, I_mul, I_clamp, chk_I, wchk_I, I_succ, Int.toNat_natCast, Int.reduceToNat, b01, b01I, bd_ite, if_true, if_false, ite_self, reduceIte, Int.reduceLE, Int.reduceLT, Int.reduceAdd, Int.reduceSub, Int.reduceNeg, Nat.reduceEqDiff, Nat.reduceAdd, h14]
      refine wp_mono (take_spec hc1.2 hl (by omega)) (fun r M2 t => ?_)
      exact ⟨trivial, CSt_upd k (cv_w k.1 t.1 (fun j hj => t.2 _ (by unfold sI; omega))) (CHist_congr k.2.1 (fun i hi => t.2 i (by omega))) (fun i hi => t.2 i (by omega))⟩
    · have e6 := (rv_n h.1).2.2.2.2.2.2.1
      unfold d_X9_unwish
      simp (disch := first | omega | (unfold sm; omega)) only [wq_bd, wq_some, wq_bnd, wq_ite, bnd_e, bd_some, lit_, neg_I, I_lt, I_le, I_eq, I_add, I_sub, I_mul, I_clamp, chk_I, wchk_I, I_succ, Int.toNat_natCast, Int.reduceToNat, b01, b01I, bd_ite, if_true, if_false, ite_self, reduceIte, Int.reduceLE, Int.reduceLT, Int.reduceAdd, Int.reduceSub, Int.reduceNeg, Nat.reduceEqDiff, Nat.reduceAdd, e6, rin_I]
      rw [if_neg (by omega)]
      refine rpush hA h (fun r M1 k k0 => ?_)
      obtain ⟨-, o1, -⟩ := rofW k.1 hl hget
      simp (disch := first | omega | (unfold sm; omega)) only [wq_bd, wq_some, wq_bnd, wq_ite, bnd_e, bd_some, lit_, neg_I, I_lt, I_le, I_eq, I_add, I_sub, I_mul, I_clamp, chk_I, wchk_I, I_succ, Int.toNat_natCast, Int.reduceToNat, b01, b01I, bd_ite, if_true, if_false, ite_self, reduceIte, Int.reduceLE, Int.reduceLT, Int.reduceAdd, Int.reduceSub, Int.reduceNeg, Nat.reduceEqDiff, Nat.reduceAdd, o1]
      refine wp_mono (leaves_spec k.1 hl (by omega)) (fun r M2 t => ?_)
      exact ⟨trivial, RSt_upd k t.1 (RHist_congr k.2.1 (by rw [t.2 143 (by decide)]) (by rw [t.2 145 (by decide)])) (fun j hj => by rw [t.2 143 (by decide)]) (by rw [t.2 146 (by decide)]) (by rw [t.2 153 (by decide)])⟩
  · refine ⟨I (-1), ((S, W), l, o, T), hA, fun M h => ?_, fun M h => ?_⟩
    · have hc := cv_cc.mp h.1
      unfold d_X8_unwish
      rw [has7_I hc.2 hl ha]
      simp (disch := first | omega | (unfold sm; omega)) only [wq_bd, wq_some, wq_bnd, wq_ite, bnd_e, bd_some, lit_, neg_I, I_lt, I_le, I_eq, I_add, I_sub, I_mul, I_clamp, chk_I, wchk_I, I_succ, Int.toNat_natCast, Int.reduceToNat, b01, b01I, bd_ite, if_true, if_false, ite_self, reduceIte, Int.reduceLE, Int.reduceLT, Int.reduceAdd, Int.reduceSub, Int.reduceNeg, Nat.reduceEqDiff, Nat.reduceAdd]
      rw [if_pos (fun h => c h)]
      exact ⟨trivial, h⟩
    · have e6 := (rv_n h.1).2.2.2.2.2.2.1
      unfold d_X9_unwish
      simp (disch := first | omega | (unfold sm; omega)) only [wq_bd, wq_some, wq_bnd, wq_ite, bnd_e, bd_some, lit_, neg_I, I_lt, I_le, I_eq, I_add, I_sub, I_mul, I_clamp, chk_I, wchk_I, I_succ, Int.toNat_natCast, Int.reduceToNat, b01, b01I, bd_ite, if_true, if_false, ite_self, reduceIte, Int.reduceLE, Int.reduceLT, Int.reduceAdd, Int.reduceSub, Int.reduceNeg, Nat.reduceEqDiff, Nat.reduceAdd, e6, rin_I]
      rw [if_pos (by omega)]
      exact ⟨trivial, h⟩
theorem within_I {a b c : Int} (ha : -2147483648 ≤ a ∧ a < 2147483648) (hb : -2147483648 ≤ b ∧ b < 2147483648) (hc : -2147483648 ≤ c ∧ c < 2147483648) (M : Mem) : d_X8_within (I a) (I b) (I c) M = some ((if b ≤ a ∧ a ≤ c then 1 else 0), M) := by
  simp (disch := first | omega | (unfold sm; omega)) only [wq_bd, wq_some, wq_bnd, wq_ite, bnd_e, bd_some, lit_, neg_I, I_lt, I_le, I_eq, I_add, I_sub, I_mul, I_clamp, chk_I, wchk_I, I_succ, Int.toNat_natCast, Int.reduceToNat, b01, b01I, bd_ite, if_true, if_false, ite_self, reduceIte, Int.reduceLE, Int.reduceLT, Int.reduceAdd, Int.reduceSub, Int.reduceNeg, Nat.reduceEqDiff, Nat.reduceAdd, s_within]
theorem imin_I {a b : Int} (ha : sm a) (hb : sm b) : imin (I a) (I b) = I (min a b) := by
  unfold imin
  rw [show (if I b < I a then I b else I a) = if b < a then I b else I a from by simp only [I_lt hb ha]]
  by_cases c : b < a
  · rw [if_pos c]; congr 1; omega
  · rw [if_neg c]; congr 1; omega
theorem imax_I {a b : Int} (ha : sm a) (hb : sm b) : imax (I a) (I b) = I (max a b) := by
  unfold imax
  rw [show (if I a < I b then I b else I a) = if a < b then I b else I a from by simp only [I_lt ha hb]]
  by_cases c : a < b
  · rw [if_pos c]; congr 1; omega
  · rw [if_neg c]; congr 1; omega
/-- only the cells under 4, and those of the recipes and bookings, matter -/
theorem bk_c {S S' : Nat → Int} {b : Nat} (h : bkOk S b) (h4 : S 4 ≤ 8) (e0 : S' 0 = S 0) (e4 : S' 4 = S 4) (eb : ∀ i, 42 + 5 * b ≤ i → i < 47 + 5 * b → S' i = S i) (er : ∀ i, 10 ≤ i → i < 42 → S' i = S i) : bkOk S' b := by
  obtain ⟨b1, b2, b3, b4, b5, b6⟩ := h
  unfold bkOk
  rw [eb (42 + 5 * b) (by omega) (by omega), eb (43 + 5 * b) (by omega) (by omega), eb (44 + 5 * b) (by omega) (by omega), eb (45 + 5 * b) (by omega) (by omega), e0, e4, er _ (by omega) (by omega)]
  exact ⟨b1, b2, b3, b4, b5, b6⟩
theorem SI_set {S : Nat → Int} {W : List Wi} (h : SInv (S, W)) {i : Nat} (hi : i = 1 ∨ i = 2 ∨ i = 3 ∨ 7 ≤ i ∧ i < 10) (v : Int) (h1 : 0 ≤ setS S i v 1 ∧ setS S i v 1 ≤ setS S i v 2) (h2 : 100 ≤ setS S i v 2 ∧ setS S i v 2 ≤ 3000) (h3 : 0 ≤ setS S i v 3 ∧ setS S i v 3 ≤ 300) : SInv (setS S i v, W) := by
  obtain ⟨g0, g1, g2, g3, g4, g5, g6, g7, g8, g9⟩ := h
  dsimp only at g0 g4 g5 g6 g7 g8 g9
  have e0 : setS S i v 0 = S 0 := setS_n (by omega)
  have e4 : setS S i v 4 = S 4 := setS_n (by omega)
  have e5 : setS S i v 5 = S 5 := setS_n (by omega)
  have e : ∀ j, 10 ≤ j → setS S i v j = S j := fun j hj => setS_n (by omega)
  refine ⟨by dsimp only; rw [e0]; exact g0, h1, h2, h3, by dsimp only; rw [e4]; exact g4, by dsimp only; rw [e5]; exact g5, g6, fun r hr => ?_, fun b hb => ?_, fun w hw => ?_⟩
  · dsimp only at hr ⊢
    rw [e4] at hr
    have := g7 r hr
    unfold rcOk at this ⊢
    rw [e _ (by omega), e _ (by omega), e _ (by omega), e _ (by omega)]
    exact this
  · dsimp only at hb ⊢
    rw [e5] at hb
    exact bk_c (g8 b hb) g4.2 e0 e4 (fun i h1 h2 => e i (by omega)) (fun i h1 h2 => e i (by omega))
  · have := g9 w hw
    unfold wiOk at this ⊢
    dsimp only
    rw [e0, e4]
    exact this
theorem b_setMost (p : Int32) : Both (d_X8_setMost p) (d_X9_setMost p) := by
  obtain ⟨a, ha, rfl⟩ := of_I p
  intro A hA
  obtain ⟨⟨S, W⟩, l, o, T⟩ := A
  have hi : SInv (S, W) := hA.1
  obtain ⟨h0, h1, h2, h3, h4, h5, hl⟩ := si_n hi
  by_cases c : 100 ≤ a ∧ a ≤ 3000
  · by_cases c2 : a = S 2
    · refine ⟨I (-5), ((S, W), l, o, T), hA, fun M h => ?_, fun M h => ?_⟩
      · have e2 := (cv_n h.1).2.2.1
        unfold d_X8_setMost
        simp (disch := first | omega | (unfold sm; omega)) only [wq_bd, wq_some, wq_bnd, wq_ite, bnd_e, bd_some, lit_, neg_I, I_lt, I_le, I_eq, I_add, I_sub, I_mul, I_clamp, chk_I, wchk_I, I_succ, Int.toNat_natCast, Int.reduceToNat, b01, b01I, bd_ite, if_true, if_false, ite_self, reduceIte, Int.reduceLE, Int.reduceLT, Int.reduceAdd, Int.reduceSub, Int.reduceNeg, Nat.reduceEqDiff, Nat.reduceAdd, within_I, e2]
        rw [if_neg (fun h => h c), if_pos c2]
        exact ⟨trivial, h⟩
      · have e2 := (rv_n h.1).2.2.1
        unfold d_X9_setMost
        simp (disch := first | omega | (unfold sm; omega)) only [wq_bd, wq_some, wq_bnd, wq_ite, bnd_e, bd_some, lit_, neg_I, I_lt, I_le, I_eq, I_add, I_sub, I_mul, I_clamp, chk_I, wchk_I, I_succ, Int.toNat_natCast, Int.reduceToNat, b01, b01I, bd_ite, if_true, if_false, ite_self, reduceIte, Int.reduceLE, Int.reduceLT, Int.reduceAdd, Int.reduceSub, Int.reduceNeg, Nat.reduceEqDiff, Nat.reduceAdd, rin_I, e2]
        rw [if_neg (fun h => h c), if_pos c2.symm]
        exact ⟨trivial, h⟩
    · have hi' : SInv (setS (setS S 2 a) 1 (min (S 1) a), W) := by
        have e : setS (setS S 2 a) 1 (min (S 1) a) = setS (setS S 1 (min (S 1) a)) 2 a := by
          funext j
          unfold setS
          by_cases j1 : j = 1
          · subst j1; rfl
          · by_cases j2 : j = 2
            · subst j2; rfl
            · rw [if_neg j1, if_neg j2, if_neg j2, if_neg j1]
        rw [e]
        refine SI_set (SI_set hi (by omega) _ ?_ ?_ ?_) (by omega) _ ?_ ?_ ?_ <;> simp only [setS, if_true, Nat.reduceEqDiff, if_false] <;> omega
      refine ⟨I (min (S 1) a), ((setS (setS S 2 a) 1 (min (S 1) a), W), pushH l (S, W), o, T), AInv_push hA hi', fun M h => ?_, fun M h => ?_⟩
      · have e2 := (cv_n h.1).2.2.1
        unfold d_X8_setMost
        simp (disch := first | omega | (unfold sm; omega)) only [wq_bd, wq_some, wq_bnd, wq_ite, bnd_e, bd_some, lit_, neg_I, I_lt, I_le, I_eq, I_add, I_sub, I_mul, I_clamp, chk_I, wchk_I, I_succ, Int.toNat_natCast, Int.reduceToNat, b01, b01I, bd_ite, if_true, if_false, ite_self, reduceIte, Int.reduceLE, Int.reduceLT, Int.reduceAdd, Int.reduceSub, Int.reduceNeg, Nat.reduceEqDiff, Nat.reduceAdd, within_I, e2]
        rw [if_neg (fun h => h c), if_neg c2]
        refine cpush hA h (fun r M1 k => ?_)
        have hc1 := (cv_set1 k.1 a).2.2.1
        have e1 := (cv_n hc1).2.1
        rw [setS_n (by decide)] at e1
        have hc2 := (cv_set1 hc1 (min (S 1) a)).2.1
        simp (disch := first | omega | (unfold sm; omega)) only [wq_bd, wq_some, wq_bnd, wq_ite, bnd_e, bd_some, lit_, neg_I, I_lt, I_le, I_eq, I_add, I_sub, I_mul, I_clamp, chk_I, wchk_I, I_succ, Int.toNat_natCast, Int.reduceToNat, b01, b01I, bd_ite, if_true, if_false, ite_self, reduceIte, Int.reduceLE, Int.reduceLT, Int.reduceAdd, Int.reduceSub, Int.reduceNeg, Nat.reduceEqDiff, Nat.reduceAdd, e1, imin_I]
        refine ⟨by rw [mup_s, upd_s], CSt_upd k hc2 (CHist_congr k.2.1 (fun i hi => ?_)) (fun i hi => ?_)⟩
        · rw [mup_n (by unfold sI; omega), mup_n (by unfold sI; omega)]
        · rw [mup_n (by unfold sI; omega), mup_n (by unfold sI; omega)]
      · have e2 := (rv_n h.1).2.2.1
        unfold d_X9_setMost
        simp (disch := first | omega | (unfold sm; omega)) only [wq_bd, wq_some, wq_bnd, wq_ite, bnd_e, bd_some, lit_, neg_I, I_lt, I_le, I_eq, I_add, I_sub, I_mul, I_clamp, chk_I, wchk_I, I_succ, Int.toNat_natCast, Int.reduceToNat, b01, b01I, bd_ite, if_true, if_false, ite_self, reduceIte, Int.reduceLE, Int.reduceLT, Int.reduceAdd, Int.reduceSub, Int.reduceNeg, Nat.reduceEqDiff, Nat.reduceAdd, rin_I, e2]
        rw [if_neg (fun h => h c), if_neg (fun e => c2 e.symm)]
        refine rpush hA h (fun r M1 k k0 => ?_)
        have hv1 := rv_set k.1 (i := 2) (by decide) (by decide) a
        have e1 := (rv_n hv1).2.1
        rw [setS_n (by decide)] at e1
        have hv2 := rv_set hv1 (i := 1) (by decide) (by decide) (min (S 1) a)
        simp (disch := first | omega | (unfold sm; omega)) only [wq_bd, wq_some, wq_bnd, wq_ite, bnd_e, bd_some, lit_, neg_I, I_lt, I_le, I_eq, I_add, I_sub, I_mul, I_clamp, chk_I, wchk_I, I_succ, Int.toNat_natCast, Int.reduceToNat, b01, b01I, bd_ite, if_true, if_false, ite_self, reduceIte, Int.reduceLE, Int.reduceLT, Int.reduceAdd, Int.reduceSub, Int.reduceNeg, Nat.reduceEqDiff, Nat.reduceAdd, mup_s, e1, d_X9_setMost_B64]
        have fin : ∀ v, v = min (S 1) a → (fun y M2 => y = I (min (S 1) a) ∧ RSt M2 ((setS (setS S 2 a) 1 (min (S 1) a), W), pushH l (S, W), o, T)) (mup (mup M1 144 2 (I a)) 144 1 (I v) 144 1) (mup (mup M1 144 2 (I a)) 144 1 (I v)) := by
          intro v hv
          subst hv
          refine ⟨by rw [mup_s, upd_s], RSt_upd k (by rw [mup_s, mup_s]; exact hv2) (RHist_congr k.2.1 ?_ ?_) (fun j hj => ?_) ?_ ?_⟩ <;> rw [mup_n (by decide), mup_n (by decide)]
        by_cases c3 : S 1 ≤ a
        · rw [if_pos c3]
          have := fin (S 1) (by omega)
          rw [mup_s] at this
          exact this
        · rw [if_neg c3]
          have := fin a (by omega)
          rw [mup_s] at this
          exact this
  · refine ⟨I (-2), ((S, W), l, o, T), hA, fun M h => ?_, fun M h => ?_⟩
    · unfold d_X8_setMost
      simp (disch := first | omega | (unfold sm; omega)) only [wq_bd, wq_some, wq_bnd, wq_ite, bnd_e, bd_some, lit_, neg_I, I_lt, I_le, I_eq, I_add, I_sub, I_mul, I_clamp, chk_I, wchk_I, I_succ, Int.toNat_natCast, Int.reduceToNat, b01, b01I, bd_ite, if_true, if_false, ite_self, reduceIte, Int.reduceLE, Int.reduceLT, Int.reduceAdd, Int.reduceSub, Int.reduceNeg, Nat.reduceEqDiff, Nat.reduceAdd, within_I]
      rw [if_pos (fun h => c h)]
      exact ⟨trivial, h⟩
    · unfold d_X9_setMost
      simp (disch := first | omega | (unfold sm; omega)) only [wq_bd, wq_some, wq_bnd, wq_ite, bnd_e, bd_some, lit_, neg_I, I_lt, I_le, I_eq, I_add, I_sub, I_mul, I_clamp, chk_I, wchk_I, I_succ, Int.toNat_natCast, Int.reduceToNat, b01, b01I, bd_ite, if_true, if_false, ite_self, reduceIte, Int.reduceLE, Int.reduceLT, Int.reduceAdd, Int.reduceSub, Int.reduceNeg, Nat.reduceEqDiff, Nat.reduceAdd, rin_I]
      rw [if_pos (fun h => c h)]
      exact ⟨trivial, h⟩
