/-! the reference's forecast -/
def frc (M : Mem) (F : Fc) : Prop := M 143 10 = I F.1 ∧ ∀ b, b ≤ 60 → M 148 b = I (F.2.2 b).1 ∧ M 149 b = I (F.2.2 b).2.1 ∧ M 150 b = I (F.2.2 b).2.2.1
/-- what a forecast may write -/
def fcf (M M1 : Mem) : Prop := (∀ i, i ≠ 143 → i ≠ 148 → i ≠ 149 → i ≠ 150 → M1 i = M i) ∧ ∀ j, j ≠ 10 → M1 143 j = M 143 j
theorem fcf_r (M : Mem) : fcf M M := ⟨fun _ _ _ _ _ => rfl, fun _ _ => rfl⟩
theorem fcf_t {M M1 M2 : Mem} (h : fcf M M1) (k : fcf M1 M2) : fcf M M2 := ⟨fun i a b c d => (k.1 i a b c d).trans (h.1 i a b c d), fun j a => (k.2 j a).trans (h.2 j a)⟩
theorem asks_spec {M : Mem} {S S' : Nat → Int} {W : List Wi} (hr : rv (M 144) (S, W)) (h42 : ∀ j, j < 42 → S' j = S j) {ps : List Nat} (hs : ScOk S' ps) {t : Int} (ht : 1 ≤ t ∧ t ≤ 20000) {F : Fc} (hF : FI S' ps t F) (h : frc M F) {b : Nat} (hb : b ∈ ps) : wp (d_X9_asks (I b) (I (rcN S' b)) (I (S' (44 + 5 * b))) (I t) M) (fun _ M1 => frc M1 (askS S' t F b) ∧ fcf M M1) := by
  obtain ⟨hb60, h43, hrl, hro, h44, -⟩ := hs.2.2.2.2.2.2.1 b hb
  have hS4 := hs.2.2.2.2.1
  have hce := hF.2 b hb
  have hp := hF.1
  unfold ceOk at hce
  unfold rcOk at hro
  obtain ⟨o0, o1, o2, o3⟩ := rofR hr (r := rcN S' b) (by omega)
  rw [← h42 _ (by omega)] at o0 o1 o2 o3
  obtain ⟨v1, v2, v3⟩ := h.2 b hb60
  unfold d_X9_asks
  simp (disch := first | omega | (unfold sm; omega)) only [wq_bd, wq_some, wq_bnd, wq_ite, bnd_e, bd_some, lit_, neg_I, I_lt, I_le, I_eq, I_add, I_sub, I_mul, I_clamp, chk_I, wchk_I, I_succ, Int.toNat_natCast, Int.reduceToNat, b01, b01I, bd_ite, if_true, if_false, ite_self, reduceIte, Int.reduceLE, Int.reduceLT, Int.reduceAdd, Int.reduceSub, Int.reduceNeg, Nat.reduceEqDiff, Nat.reduceAdd, v1, o0, o2, rin_I]
  unfold askS
  by_cases c1 : 1 < (F.2.2 b).1
  · rw [if_pos c1, if_neg (fun hh => by have := hh.1; omega)]
    exact ⟨h, fcf_r M⟩
  · rw [if_neg c1]
    by_cases c2 : S' (44 + 5 * b) ≤ t ∧ t ≤ S' (44 + 5 * b) + S' (12 + 4 * rcN S' b) - 1
    · rw [if_neg (fun hh => hh c2), if_pos (show askP S' t F.2.2 b from ⟨by omega, c2.1, c2.2⟩), h.1]
      simp (disch := first | omega | (unfold sm; omega)) only [wq_bd, wq_some, wq_bnd, wq_ite, bnd_e, bd_some, lit_, neg_I, I_lt, I_le, I_eq, I_add, I_sub, I_mul, I_clamp, chk_I, wchk_I, I_succ, Int.toNat_natCast, Int.reduceToNat, b01, b01I, bd_ite, if_true, if_false, ite_self, reduceIte, Int.reduceLE, Int.reduceLT, Int.reduceAdd, Int.reduceSub, Int.reduceNeg, Nat.reduceEqDiff, Nat.reduceAdd, v3]
      -- behind the least spare
      have main : ∀ ls, ls = min (F.2.2 b).2.2.1 (F.1 - S' (10 + 4 * rcN S' b)) → wp (d_X9_asks_B70 (I b) (I (rcN S' b)) (I (S' (44 + 5 * b))) (I t) (I (F.1 - S' (10 + 4 * rcN S' b))) (I ls) (I b) M) (fun _ M1 => frc M1 (F.1 - askT S' F.1 b, F.2.1 + askT S' F.1 b, setC F.2.2 b (askC S' t F.1 (F.2.2 b) b)) ∧ fcf M M1) := by
        intro ls hls
        subst hls
        have hr8 : ∀ v, rv ((mup M 150 b v) 144) (S, W) := fun v => by rw [mup_n (by decide)]; exact hr
        obtain ⟨p0, p1, p2, p3⟩ := rofR (hr8 (I (min (F.2.2 b).2.2.1 (F.1 - S' (10 + 4 * rcN S' b))))) (r := rcN S' b) (by omega)
        rw [← h42 _ (by omega)] at p0 p1 p2 p3
        have e10 : ∀ v, (mup M 150 b v) 143 10 = I F.1 := fun v => by rw [mup_n (by decide)]; exact h.1
        unfold d_X9_asks_B70
        simp (disch := first | omega | (unfold sm; omega)) only [wq_bd, wq_some, wq_bnd, wq_ite, bnd_e, bd_some, lit_, neg_I, I_lt, I_le, I_eq, I_add, I_sub, I_mul, I_clamp, chk_I, wchk_I, I_succ, Int.toNat_natCast, Int.reduceToNat, b01, b01I, bd_ite, if_true, if_false, ite_self, reduceIte, Int.reduceLE, Int.reduceLT, Int.reduceAdd, Int.reduceSub, Int.reduceNeg, Nat.reduceEqDiff, Nat.reduceAdd, p1, e10]
        by_cases d : F.1 < S' (10 + 4 * rcN S' b)
        · have hC : askC S' t F.1 (F.2.2 b) b = (3, t, min (F.2.2 b).2.2.1 (F.1 - S' (10 + 4 * rcN S' b)), (F.2.2 b).2.2.2) := by unfold askC; rw [if_pos d]
          have hT : askT S' F.1 b = 0 := by unfold askT; rw [if_pos d]
          rw [if_neg (by omega), hC, hT]
          refine ⟨⟨?_, fun y hy => ?_⟩, fun i i0 i1 i2 i3 => ?_, fun j hj => ?_⟩
          · rw [mup_n (by decide), mup_n (by decide), mup_n (by decide), h.1]; dsimp only; rw [Int.sub_zero]
          · dsimp only
            rw [mup_n (show (148 : Nat) ≠ 149 by decide), mup_s, mup_s, mup_n (show (150 : Nat) ≠ 149 by decide), mup_n (show (150 : Nat) ≠ 148 by decide), mup_s, mup_n (show (148 : Nat) ≠ 150 by decide), mup_n (show (149 : Nat) ≠ 148 by decide), mup_n (show (149 : Nat) ≠ 150 by decide)]
            by_cases e : y = b
            · subst e
              rw [upd_s, upd_s, upd_s, setC_s]
              exact ⟨rfl, rfl, rfl⟩
            · rw [upd_n e, upd_n e, upd_n e, setC_n e]
              exact h.2 y hy
          · rw [mup_n i2, mup_n i1, mup_n i3]
          · rw [mup_n (by decide), mup_n (by decide), mup_n (by decide)]
        · have hC : askC S' t F.1 (F.2.2 b) b = ((if t = S' (44 + 5 * b) + S' (12 + 4 * rcN S' b) - 1 then 2 else 1), (F.2.2 b).2.1, min (F.2.2 b).2.2.1 (F.1 - S' (10 + 4 * rcN S' b)), (F.2.2 b).2.2.2 + 1) := by unfold askC; rw [if_neg d]
          have hT : askT S' F.1 b = min (S' (11 + 4 * rcN S' b)) F.1 := by unfold askT; rw [if_neg d]
          rw [if_pos (by omega), hC, hT]
          have main2 : ∀ pr, pr = F.1 - min (S' (11 + 4 * rcN S' b)) F.1 → wp (d_X9_asks_B117 (I b) (I (rcN S' b)) (I (S' (44 + 5 * b))) (I t) (I pr) (mup M 150 b (I (min (F.2.2 b).2.2.1 (F.1 - S' (10 + 4 * rcN S' b)))))) (fun _ M1 => frc M1 (F.1 - min (S' (11 + 4 * rcN S' b)) F.1, F.2.1 + min (S' (11 + 4 * rcN S' b)) F.1, setC F.2.2 b ((if t = S' (44 + 5 * b) + S' (12 + 4 * rcN S' b) - 1 then 2 else 1), (F.2.2 b).2.1, min (F.2.2 b).2.2.1 (F.1 - S' (10 + 4 * rcN S' b)), (F.2.2 b).2.2.2 + 1)) ∧ fcf M M1) := by
            intro pr hpr
            subst hpr
            have hr9 : ∀ v w, rv ((mup (mup M 150 b v) 143 10 w) 144) (S, W) := fun v w => by rw [mup_n (by decide), mup_n (by decide)]; exact hr
            obtain ⟨u0, u1, u2, u3⟩ := rofR (hr9 (I (min (F.2.2 b).2.2.1 (F.1 - S' (10 + 4 * rcN S' b)))) (I (F.1 - min (S' (11 + 4 * rcN S' b)) F.1))) (r := rcN S' b) (by omega)
            rw [← h42 _ (by omega)] at u0 u1 u2 u3
            have fin : ∀ v : Int, frc (mup (mup (mup M 150 b (I (min (F.2.2 b).2.2.1 (F.1 - S' (10 + 4 * rcN S' b))))) 143 10 (I (F.1 - min (S' (11 + 4 * rcN S' b)) F.1))) 148 b (I v)) (F.1 - min (S' (11 + 4 * rcN S' b)) F.1, F.2.1 + min (S' (11 + 4 * rcN S' b)) F.1, setC F.2.2 b (v, (F.2.2 b).2.1, min (F.2.2 b).2.2.1 (F.1 - S' (10 + 4 * rcN S' b)), (F.2.2 b).2.2.2 + 1)) ∧ fcf M (mup (mup (mup M 150 b (I (min (F.2.2 b).2.2.1 (F.1 - S' (10 + 4 * rcN S' b))))) 143 10 (I (F.1 - min (S' (11 + 4 * rcN S' b)) F.1))) 148 b (I v)) := by
              intro v
              refine ⟨⟨?_, fun y hy => ?_⟩, fun i i0 i1 i2 i3 => ?_, fun j hj => ?_⟩
              · rw [mup_n (by decide), mup_s, upd_s]
              · dsimp only
                rw [mup_s, mup_n (show (148 : Nat) ≠ 143 by decide), mup_n (show (148 : Nat) ≠ 150 by decide), mup_n (show (149 : Nat) ≠ 148 by decide), mup_n (show (149 : Nat) ≠ 143 by decide), mup_n (show (149 : Nat) ≠ 150 by decide), mup_n (show (150 : Nat) ≠ 148 by decide), mup_n (show (150 : Nat) ≠ 143 by decide), mup_s]
                by_cases e : y = b
                · subst e
                  rw [upd_s, upd_s, setC_s]
                  exact ⟨rfl, v2, rfl⟩
                · rw [upd_n e, upd_n e, setC_n e]
                  exact h.2 y hy
              · rw [mup_n i1, mup_n i0, mup_n i3]
              · rw [mup_n (by decide), mup_s, upd_n hj, mup_n (by decide)]
            unfold d_X9_asks_B117
            simp (disch := first | omega | (unfold sm; omega)) only [wq_bd, wq_some, wq_bnd, wq_ite, bnd_e, bd_some, lit_, neg_I, I_lt, I_le, I_eq, I_add, I_sub, I_mul, I_clamp, chk_I, wchk_I, I_succ, Int.toNat_natCast, Int.reduceToNat, b01, b01I, bd_ite, if_true, if_false, ite_self, reduceIte, Int.reduceLE, Int.reduceLT, Int.reduceAdd, Int.reduceSub, Int.reduceNeg, Nat.reduceEqDiff, Nat.reduceAdd, u2]
            by_cases d2 : t = S' (44 + 5 * b) + S' (12 + 4 * rcN S' b) - 1
            · simp only [if_pos d2]
              exact fin 2
            · simp only [if_neg d2]
              exact fin 1
          by_cases d3 : 0 ≤ F.1 - S' (11 + 4 * rcN S' b)
          · rw [if_pos d3]
            exact main2 _ (by omega)
          · rw [if_neg d3]
            exact main2 0 (by omega)
      by_cases d : (F.2.2 b).2.2.1 ≤ F.1 - S' (10 + 4 * rcN S' b)
      · rw [if_pos d]
        exact main _ (by omega)
      · rw [if_neg d]
        exact main _ (by omega)
    · rw [if_pos c2, if_neg (fun hh => c2 ⟨hh.2.1, hh.2.2⟩)]
      exact ⟨h, fcf_r M⟩
/-- the reference is set to forecast the state S' -/
def RSc (S S' : Nat → Int) (out : Int) (ex : Bool) (f : Nat → Int32) : Prop :=
  (∀ j, j < 42 → S' j = S j) ∧ (∀ b : Nat, (b : Int) < S 5 → S' (43 + 5 * b) = S (43 + 5 * b) ∧ S' (45 + 5 * b) = S (45 + 5 * b) ∧ S' (46 + 5 * b) = S (46 + 5 * b)) ∧
  (f 13 = I out ∧ -1 ≤ out ∧ out ≤ 60) ∧
  (∃ mv ms : Int, f 14 = I mv ∧ f 15 = I ms ∧ (-1 ≤ mv ∧ mv ≤ 60) ∧ ∀ b : Nat, (b : Int) < S 5 → S' (44 + 5 * b) = if (b : Int) = mv then ms else S (44 + 5 * b)) ∧
  ∃ e es : Int, f 11 = I e ∧ f 12 = I es ∧ (ex = true ↔ 0 ≤ e) ∧ (-1 ≤ e ∧ e < 8) ∧ (0 ≤ e → S' 343 = e ∧ S' 344 = es)
theorem RSc_c {S S' : Nat → Int} {out : Int} {ex : Bool} {f g : Nat → Int32} (h : RSc S S' out ex f) (e : ∀ j, 11 ≤ j → j ≤ 15 → g j = f j) : RSc S S' out ex g := by
  unfold RSc
  rw [e 11 (by omega) (by omega), e 12 (by omega) (by omega), e 13 (by omega) (by omega), e 14 (by omega) (by omega), e 15 (by omega) (by omega)]
  exact h
theorem fore_L {S S' : Nat → Int} {W : List Wi} (hi : SInv (S, W)) {out : Int} {ex : Bool} (hs : ScOk S' (rl S' out ex)) {t : Int} (ht : 1 ≤ t ∧ t ≤ 20000) {kx : Mem → Ans} {Q : Int32 → Mem → Prop} : ∀ (d n x : Nat) (M : Mem) (F : Fc), (x : Int) + d = S 5 → d < n → rv (M 144) (S, W) → RSc S S' out ex (M 143) → frc M F → FI S' (rl S' out ex) t F → (∀ y, y ∉ rl S' out ex → F.2.2 y = D0 S' y) → (∀ M1 F1, F1 = ((List.range' x d).filter (inP S' out)).foldl (askS S' t) F → frc M1 F1 → FI S' (rl S' out ex) t F1 → fcf M M1 → wp (kx M1) Q) → wp (d_X9_foresees_L47 (I t) kx n (I x) M) Q
  | 0, n + 1, x, M, F, hx, hn, hr, hR, h, hF, ho, k => by
    have h5 := (si_n hi).2.2.2.2.2.1
    have e5 := (rv_n hr).2.2.2.2.2.1
    rw [sd_X9_foresees_L47]
    unfold d_X9_foresees_L47_body
    simp (disch := first | omega | (unfold sm; omega)) only [wq_bd, wq_some, wq_bnd, wq_ite, bnd_e, bd_some, lit_, neg_I, I_lt, I_le, I_eq, I_add, I_sub, I_mul, I_clamp, chk_I, wchk_I, I_succ, Int.toNat_natCast, Int.reduceToNat, b01, b01I, bd_ite, if_true, if_false, ite_self, reduceIte, Int.reduceLE, Int.reduceLT, Int.reduceAdd, Int.reduceSub, Int.reduceNeg, Nat.reduceEqDiff, Nat.reduceAdd, e5]
    rw [if_pos (by omega)]
    exact k M F rfl h hF (fcf_r M)
  | d + 1, n + 1, x, M, F, hx, hn, hr, hR, h, hF, ho, k => by
    have h5 := (si_n hi).2.2.2.2.2.1
    have e5 := (rv_n hr).2.2.2.2.2.1
    have hb : (x : Int) < S 5 := by omega
    obtain ⟨q0, q1, q2, q3, q4⟩ := rof0 hr (b := x) (by omega)
    obtain ⟨s42, s1, ⟨s13, s13a, s13b⟩, ⟨mv, ms, s14, s15, smv, sms⟩, -⟩ := id hR
    obtain ⟨f43, f45, f46⟩ := s1 x hb
    have f44 := sms x hb
    have eS5 : S' 5 = S 5 := s42 5 (by decide)
    have hbk := si_b hi hb
    have ih := fun M F a1 a2 a3 a4 a5 => fore_L hi hs ht (kx := kx) (Q := Q) d n (x + 1) M F (by omega) (by omega) a1 a2 a3 a4 a5
    rw [List.range'_succ, List.filter_cons] at k
    rw [sd_X9_foresees_L47]
    unfold d_X9_foresees_L47_body
    simp (disch := first | omega | (unfold sm; omega)) only [wq_bd, wq_some, wq_bnd, wq_ite, bnd_e, bd_some, lit_, neg_I, I_lt, I_le, I_eq, I_add, I_sub, I_mul, I_clamp, chk_I, wchk_I, I_succ, Int.toNat_natCast, Int.reduceToNat, b01, b01I, bd_ite, if_true, if_false, ite_self, reduceIte, Int.reduceLE, Int.reduceLT, Int.reduceAdd, Int.reduceSub, Int.reduceNeg, Nat.reduceEqDiff, Nat.reduceAdd, e5, s13, q1, q2, s14, s15, d_X9_foresees_B98, d_X9_foresees_B94]
    rw [if_neg (by omega)]
    have skip : inP S' out x = false → wp (d_X9_foresees_L47 (I t) kx n (I ((x + 1 : Nat) : Int)) M) Q := by
      intro hp
      rw [hp, if_neg (by decide)] at k
      exact ih M F hr hR h hF ho k
    by_cases c1 : (x : Int) = out
    · rw [if_pos c1]
      exact skip (decide_eq_false (fun hh => hh.2 c1))
    · rw [if_neg c1]
      -- asks, with the start that the scenario names
      have main : wp (d_X9_asks (I x) (I (S (43 + 5 * x))) (I (S' (44 + 5 * x))) (I t) M) (fun _ M2 => wp (d_X9_foresees_L47 (I t) kx n (I ((x + 1 : Nat) : Int)) M2) Q) := by
        by_cases c2 : S' (45 + 5 * x) ≤ 1
        · have hin : inP S' out x = true := decide_eq_true ⟨c2, c1⟩
          have hm : x ∈ rl S' out ex := rl_mem.mpr (Or.inl ⟨by omega, c2, c1⟩)
          have e43 := (hs.2.2.2.2.2.2.1 x hm).2.1
          rw [← f43, e43]
          refine wp_mono (asks_spec hr s42 hs ht hF h hm) (fun r M2 q => ?_)
          obtain ⟨z1, z2⟩ := q
          rw [hin, if_pos rfl, List.foldl_cons] at k
          have hr2 : rv (M2 144) (S, W) := by rw [z2.1 144 (by decide) (by decide) (by decide) (by decide)]; exact hr
          refine ih M2 _ hr2 (RSc_c hR (fun j h1 h2 => z2.2 j (by omega))) z1 (ask_FI hs ht.1 hF hm) (fun y hy => ?_) (fun M1 F1 y1 y2 y3 y4 => k M1 F1 y1 y2 y3 (fcf_t z2 y4))
          rw [← ho y hy]
          unfold askS
          split
          · exact setC_n (fun e => hy (e ▸ hm))
          · rfl
        · have hin : inP S' out x = false := decide_eq_false (fun hh => c2 hh.1)
          have hm : x ∉ rl S' out ex := fun hh => by
            rcases rl_mem.mp hh with hh | hh
            · exact c2 hh.2.1
            · omega
          have hD := ho x hm
          have hx60 := h.2 x (by omega)
          have e1 : M 148 x = I (S' (45 + 5 * x)) := by
            rw [hx60.1, hD]
            unfold D0
            rw [if_pos (by omega)]
          have hst := hbk.2.2.2.1
          unfold d_X9_asks
          simp (disch := first | omega | (unfold sm; omega)) only [wq_bd, wq_some, wq_bnd, wq_ite, bnd_e, bd_some, lit_, neg_I, I_lt, I_le, I_eq, I_add, I_sub, I_mul, I_clamp, chk_I, wchk_I, I_succ, Int.toNat_natCast, Int.reduceToNat, b01, b01I, bd_ite, if_true, if_false, ite_self, reduceIte, Int.reduceLE, Int.reduceLT, Int.reduceAdd, Int.reduceSub, Int.reduceNeg, Nat.reduceEqDiff, Nat.reduceAdd, e1]
          rw [if_pos (by omega)]
          exact skip hin
      by_cases c3 : (x : Int) = mv
      · rw [if_pos c3]
        rw [if_pos c3] at f44
        rw [← f44]
        exact main
      · rw [if_neg c3]
        rw [if_neg c3] at f44
        rw [← f44]
        exact main
  | _, 0, _, _, _, _, hn, _, _, _, _, _, _ => absurd hn (by omega)
theorem fore_spec {S S' : Nat → Int} {W : List Wi} (hi : SInv (S, W)) {out : Int} {ex : Bool} (hs : ScOk S' (rl S' out ex)) {n : Nat} (hn : n ≤ 1000) {M : Mem} (hr : rv (M 144) (S, W)) (hR : RSc S S' out ex (M 143)) (h : frc M (runS S' (rl S' out ex) n)) : wp (d_X9_foresees (I (S 0 + n + 1)) M) (fun _ M1 => frc M1 (runS S' (rl S' out ex) (n + 1)) ∧ fcf M M1) := by
  obtain ⟨g0, g1, g2, g3, g4, g5, -⟩ := si_n hi
  obtain ⟨e0, e1, e2, e3, e4, e5, -⟩ := rv_n hr
  obtain ⟨s42, s1, s13, s14, e, es, s11, s12, sex, se, se2⟩ := id hR
  have hF := run_FI hs n
  have hp := hF.1
  have hFu := FI_up hs hF
  have eS0 : S' 0 = S 0 := s42 0 (by decide)
  have eS2 : S' 2 = S 2 := s42 2 (by decide)
  have eS3 : S' 3 = S 3 := s42 3 (by decide)
  have eS5 : S' 5 = S 5 := s42 5 (by decide)
  unfold d_X9_foresees
  rw [h.1]
  simp (disch := first | omega | (unfold sm; omega)) only [wq_bd, wq_some, wq_bnd, wq_ite, bnd_e, bd_some, lit_, neg_I, I_lt, I_le, I_eq, I_add, I_sub, I_mul, I_clamp, chk_I, wchk_I, I_succ, Int.toNat_natCast, Int.reduceToNat, b01, b01I, bd_ite, if_true, if_false, ite_self, reduceIte, Int.reduceLE, Int.reduceLT, Int.reduceAdd, Int.reduceSub, Int.reduceNeg, Nat.reduceEqDiff, Nat.reduceAdd, e3, mup_n (show (144 : Nat) ≠ 143 by decide), mup_s, upd_s, e2]
  have main : ∀ pr, pr = min (S' 2) ((runS S' (rl S' out ex) n).1 + S' 3) → wp (d_X9_foresees_B42 (I (S 0 + n + 1)) (I pr) (mup M 143 10 (I ((runS S' (rl S' out ex) n).1 + S 3)))) (fun _ M1 => frc M1 (runS S' (rl S' out ex) (n + 1)) ∧ fcf M M1) := by
    intro pr hpr
    unfold d_X9_foresees_B42
    rw [wq_bnd, show (0 : Int32) = I ((0 : Nat) : Int) from rfl]
    rw [eS0] at hFu
    have hf0 : fcf M (mup (mup M 143 10 (I ((runS S' (rl S' out ex) n).1 + S 3))) 143 10 (I pr)) := ⟨fun i i0 i1 i2 i3 => by rw [mup_n i0, mup_n i0], fun j hj => by rw [mup_s, upd_n hj, mup_s, upd_n hj]⟩
    refine fore_L hi hs (t := S 0 + n + 1) (by omega) (S 5).toNat fuelN 0 _ (min (S' 2) ((runS S' (rl S' out ex) n).1 + S' 3), (runS S' (rl S' out ex) n).2) (by omega) (by unfold fuelN; omega) ?_ ?_ ?_ hFu (fun y hy => run_out hy n) (fun M1 F1 y1 y2 y3 y4 => ?_)
    · rw [mup_n (by decide), mup_n (by decide)]; exact hr
    · exact RSc_c hR (fun j h1 h2 => hf0.2 j (by omega))
    · refine ⟨by rw [mup_s, upd_s, hpr], fun b hb => ?_⟩
      rw [mup_n (by decide), mup_n (by decide), mup_n (by decide), mup_n (by decide), mup_n (by decide), mup_n (by decide)]
      exact h.2 b hb
    · have hf1 := fcf_t hf0 y4
      have e11 : M1 143 11 = I e := (hf1.2 11 (by decide)).trans s11
      have e12 : M1 143 12 = I es := (hf1.2 12 (by decide)).trans s12
      have hrl : rl S' out ex = (List.range' 0 (S 5).toNat).filter (inP S' out) ++ if ex then [60] else [] := by unfold rl; rw [eS5]
      have hrun : runS S' (rl S' out ex) (n + 1) = (if ex then [60] else []).foldl (askS S' (S 0 + n + 1)) F1 := by
        show tickS S' (rl S' out ex) (S' 0 + n + 1) (runS S' (rl S' out ex) n) = _
        unfold tickS
        rw [y1, ← List.foldl_append, ← hrl, eS0]
      simp (disch := first | omega | (unfold sm; omega)) only [wq_bd, wq_some, wq_bnd, wq_ite, bnd_e, bd_some, lit_, neg_I, I_lt, I_le, I_eq, I_add, I_sub, I_mul, I_clamp, chk_I, wchk_I, I_succ, Int.toNat_natCast, Int.reduceToNat, b01, b01I, bd_ite, if_true, if_false, ite_self, reduceIte, Int.reduceLE, Int.reduceLT, Int.reduceAdd, Int.reduceSub, Int.reduceNeg, Nat.reduceEqDiff, Nat.reduceAdd, e11, e12]
      by_cases c : e < ((0 : Nat) : Int)
      · rw [if_pos c]
        have hex : ex = false := by
          cases ex with
          | false => rfl
          | true => exact absurd (sex.mp rfl) (by omega)
        rw [hrun, hex]
        exact ⟨y2, hf1⟩
      · rw [if_neg c]
        have hex : ex = true := sex.mpr (by omega)
        have hm : 60 ∈ rl S' out ex := rl_mem.mpr (Or.inr ⟨hex, rfl⟩)
        obtain ⟨t1, t2⟩ := se2 (by omega)
        have e43 := (hs.2.2.2.2.2.2.1 60 hm).2.1
        have hr1 : rv (M1 144) (S, W) := by rw [hf1.1 144 (by decide) (by decide) (by decide) (by decide)]; exact hr
        have := asks_spec hr1 s42 hs (t := S 0 + n + 1) (by omega) y3 y2 hm
        rw [show (44 + 5 * 60) = 344 from rfl, t2, ← e43, show (43 + 5 * 60) = 343 from rfl, t1] at this
        refine wp_mono this (fun r M2 q => ?_)
        rw [hrun, hex]
        exact ⟨q.1, fcf_t hf1 q.2⟩
  by_cases c : (runS S' (rl S' out ex) n).1 + S 3 ≤ S 2
  · rw [if_pos c]
    exact main _ (by omega)
  · rw [if_neg c]
    exact main _ (by omega)
/-! the reference: a forecast, who is doomed, who is doomed without a booking -/
theorem begins_L {S : Nat → Int} {W : List Wi} (hi : SInv (S, W)) {S' : Nat → Int} (e5' : S' 5 = S 5) (e45' : ∀ b : Nat, (b : Int) < S 5 → S' (45 + 5 * b) = S (45 + 5 * b)) {kx : Mem → Ans} {Q : Int32 → Mem → Prop} : ∀ (d n x : Nat) (M : Mem), x + d = 61 → d < n → rv (M 144) (S, W) → (∀ b, b < x → M 148 b = I (D0 S' b).1 ∧ M 149 b = I 0 ∧ M 150 b = I 99999) → (∀ M1, (∀ b, b < 61 → M1 148 b = I (D0 S' b).1 ∧ M1 149 b = I 0 ∧ M1 150 b = I 99999) → (∀ i, i ≠ 148 → i ≠ 149 → i ≠ 150 → M1 i = M i) → wp (kx M1) Q) → wp (d_X9_begins_L12 kx n (I x) M) Q
  | 0, n + 1, x, M, hx, hn, hr, h, k => by
    rw [sd_X9_begins_L12]
    unfold d_X9_begins_L12_body
    simp (disch := first | omega | (unfold sm; omega)) only [wq_bd, wq_some, wq_bnd, wq_ite, bnd_e, bd_some, lit_, neg_I, I_lt, I_le, I_eq, I_add, I_sub, I_mul, I_clamp, chk_I, wchk_I, I_succ, Int.toNat_natCast, Int.reduceToNat, b01, b01I, bd_ite, if_true, if_false, ite_self, reduceIte, Int.reduceLE, Int.reduceLT, Int.reduceAdd, Int.reduceSub, Int.reduceNeg, Nat.reduceEqDiff, Nat.reduceAdd]
    rw [if_pos (by omega)]
    have : x = 61 := by omega
    subst this
    exact k M h (fun i _ _ _ => rfl)
  | d + 1, n + 1, x, M, hx, hn, hr, h, k => by
    have h5 := (si_n hi).2.2.2.2.2.1
    have e5 := (rv_n hr).2.2.2.2.2.1
    have ih := fun M a1 a2 => begins_L hi e5' e45' (kx := kx) (Q := Q) d n (x + 1) M (by omega) (by omega) a1 a2
    rw [sd_X9_begins_L12]
    unfold d_X9_begins_L12_body
    simp (disch := first | omega | (unfold sm; omega)) only [wq_bd, wq_some, wq_bnd, wq_ite, bnd_e, bd_some, lit_, neg_I, I_lt, I_le, I_eq, I_add, I_sub, I_mul, I_clamp, chk_I, wchk_I, I_succ, Int.toNat_natCast, Int.reduceToNat, b01, b01I, bd_ite, if_true, if_false, ite_self, reduceIte, Int.reduceLE, Int.reduceLT, Int.reduceAdd, Int.reduceSub, Int.reduceNeg, Nat.reduceEqDiff, Nat.reduceAdd, e5]
    rw [if_neg (by omega)]
    have fin : ∀ v, v = (D0 S' x).1 → wp (d_X9_begins_B43 kx (d_X9_begins_L12 kx n) (I x) (I v) (I x) M) Q := by
      intro v hv
      unfold d_X9_begins_B43
      simp (disch := first | omega | (unfold sm; omega)) only [wq_bd, wq_some, wq_bnd, wq_ite, bnd_e, bd_some, lit_, neg_I, I_lt, I_le, I_eq, I_add, I_sub, I_mul, I_clamp, chk_I, wchk_I, I_succ, Int.toNat_natCast, Int.reduceToNat, b01, b01I, bd_ite, if_true, if_false, ite_self, reduceIte, Int.reduceLE, Int.reduceLT, Int.reduceAdd, Int.reduceSub, Int.reduceNeg, Nat.reduceEqDiff, Nat.reduceAdd]
      refine ih _ (by rw [mup_n (by decide), mup_n (by decide), mup_n (by decide)]; exact hr) (fun b hb => ?_) (fun M1 z1 z2 => k M1 z1 (fun i i1 i2 i3 => by rw [z2 i i1 i2 i3, mup_n i3, mup_n i2, mup_n i1]))
      rw [mup_n (show (148 : Nat) ≠ 150 by decide), mup_n (show (148 : Nat) ≠ 149 by decide), mup_s, mup_n (show (149 : Nat) ≠ 150 by decide), mup_s, mup_n (show (149 : Nat) ≠ 148 by decide), mup_s, mup_n (show (150 : Nat) ≠ 149 by decide), mup_n (show (150 : Nat) ≠ 148 by decide)]
      by_cases e : b = x
      · subst e
        rw [upd_s, upd_s, upd_s, hv]
        exact ⟨rfl, rfl, rfl⟩
      · rw [upd_n e, upd_n e, upd_n e]
        exact h b (by omega)
    by_cases c : S 5 ≤ x
    · rw [if_pos c]
      exact fin 0 (by unfold D0; rw [if_neg (by omega)])
    · rw [if_neg c]
      obtain ⟨-, -, -, q3, -⟩ := rof0 hr (b := x) (by omega)
      simp (disch := first | omega | (unfold sm; omega)) only [wq_bd, wq_some, wq_bnd, wq_ite, bnd_e, bd_some, lit_, neg_I, I_lt, I_le, I_eq, I_add, I_sub, I_mul, I_clamp, chk_I, wchk_I, I_succ, Int.toNat_natCast, Int.reduceToNat, b01, b01I, bd_ite, if_true, if_false, ite_self, reduceIte, Int.reduceLE, Int.reduceLT, Int.reduceAdd, Int.reduceSub, Int.reduceNeg, Nat.reduceEqDiff, Nat.reduceAdd, q3]
      exact fin _ (by unfold D0; rw [if_pos (by omega), e45' x (by omega)])
  | _, 0, _, _, _, hn, _, _, _ => absurd hn (by omega)
theorem begins_spec {S S' : Nat → Int} {W : List Wi} (hi : SInv (S, W)) {M : Mem} (hr : rv (M 144) (S, W)) (e1' : S' 1 = S 1) (e5' : S' 5 = S 5) (e45' : ∀ b : Nat, (b : Int) < S 5 → S' (45 + 5 * b) = S (45 + 5 * b)) (ps : List Nat) : wp (d_X9_begins M) (fun _ M1 => frc M1 (runS S' ps 0) ∧ fcf M M1) := by
  have e1 := (rv_n hr).2.1
  unfold d_X9_begins
  simp (disch := first | omega | (unfold sm; omega)) only [wq_bd, wq_some, wq_bnd, wq_ite, bnd_e, bd_some, lit_, neg_I, I_lt, I_le, I_eq, I_add, I_sub, I_mul, I_clamp, chk_I, wchk_I, I_succ, Int.toNat_natCast, Int.reduceToNat, b01, b01I, bd_ite, if_true, if_false, ite_self, reduceIte, Int.reduceLE, Int.reduceLT, Int.reduceAdd, Int.reduceSub, Int.reduceNeg, Nat.reduceEqDiff, Nat.reduceAdd, e1]
  rw [show (I 0 : Int32) = I ((0 : Nat) : Int) from rfl]
  refine begins_L hi e5' e45' 61 fuelN 0 _ (by omega) (by unfold fuelN; omega) (by rw [mup_n (by decide)]; exact hr) (fun b hb => absurd hb (by omega)) (fun M1 z1 z2 => ?_)
  rw [wq_some]
  refine ⟨⟨?_, fun b hb => ?_⟩, fun i i0 i1 i2 i3 => ?_, fun j hj => ?_⟩
  · rw [z2 143 (by decide) (by decide) (by decide), mup_s, upd_s, ← e1']; rfl
  · obtain ⟨a1, a2, a3⟩ := z1 b (by omega)
    have es : (D0 S' b).2.1 = 0 := by unfold D0; split <;> rfl
    have el : (D0 S' b).2.2.1 = 99999 := by unfold D0; split <;> rfl
    unfold runS
    dsimp only
    rw [es, el]
    exact ⟨a1, a2, a3⟩
  · rw [z2 i i1 i2 i3, mup_n i0]
  · rw [z2 143 (by decide) (by decide) (by decide), mup_s, upd_n hj]
theorem fcst_L {S S' : Nat → Int} {W : List Wi} (hi : SInv (S, W)) {out : Int} {ex : Bool} (hs : ScOk S' (rl S' out ex)) {kx : Mem → Ans} {Q : Int32 → Mem → Prop} : ∀ (d n x : Nat) (M : Mem), x + d = 80 → d < n → rv (M 144) (S, W) → RSc S S' out ex (M 143) → frc M (runS S' (rl S' out ex) x) → (∀ M1, frc M1 (runS S' (rl S' out ex) 80) → fcf M M1 → wp (kx M1) Q) → wp (d_X9_forecast_L6 kx n (I (x + 1 : Nat)) M) Q
  | 0, n + 1, x, M, hx, hn, hr, hR, h, k => by
    rw [sd_X9_forecast_L6]
    unfold d_X9_forecast_L6_body
    simp (disch := first | omega | (unfold sm; omega)) only [wq_bd, wq_some, wq_bnd, wq_ite, bnd_e, bd_some, lit_, neg_I, I_lt, I_le, I_eq, I_add, I_sub, I_mul, I_clamp, chk_I, wchk_I, I_succ, Int.toNat_natCast, Int.reduceToNat, b01, b01I, bd_ite, if_true, if_false, ite_self, reduceIte, Int.reduceLE, Int.reduceLT, Int.reduceAdd, Int.reduceSub, Int.reduceNeg, Nat.reduceEqDiff, Nat.reduceAdd]
    rw [if_pos (by omega)]
    have : x = 80 := by omega
    subst this
    exact k M h (fcf_r M)
  | d + 1, n + 1, x, M, hx, hn, hr, hR, h, k => by
    have e0 := (rv_n hr).1
    rw [sd_X9_forecast_L6]
    unfold d_X9_forecast_L6_body
    simp (disch := first | omega | (unfold sm; omega)) only [wq_bd, wq_some, wq_bnd, wq_ite, bnd_e, bd_some, lit_, neg_I, I_lt, I_le, I_eq, I_add, I_sub, I_mul, I_clamp, chk_I, wchk_I, I_succ, Int.toNat_natCast, Int.reduceToNat, b01, b01I, bd_ite, if_true, if_false, ite_self, reduceIte, Int.reduceLE, Int.reduceLT, Int.reduceAdd, Int.reduceSub, Int.reduceNeg, Nat.reduceEqDiff, Nat.reduceAdd, e0]
    rw [if_neg (by omega)]
    have := fore_spec hi hs (n := x) (by omega) hr hR h
    rw [show S 0 + (x : Int) + 1 = S 0 + ((x + 1 : Nat) : Int) by omega] at this
    refine wp_mono this (fun r M2 q => ?_)
    obtain ⟨z1, z2⟩ := q
    have hr2 : rv (M2 144) (S, W) := by rw [z2.1 144 (by decide) (by decide) (by decide) (by decide)]; exact hr
    exact fcst_L hi hs d n (x + 1) M2 (by omega) (by omega) hr2 (RSc_c hR (fun j h1 h2 => z2.2 j (by omega))) z1 (fun M1 y1 y2 => k M1 y1 (fcf_t z2 y2))
  | _, 0, _, _, _, hn, _, _, _, _ => absurd hn (by omega)
theorem fcst_spec {S S' : Nat → Int} {W : List Wi} (hi : SInv (S, W)) {out : Int} {ex : Bool} (hs : ScOk S' (rl S' out ex)) {M : Mem} (hr : rv (M 144) (S, W)) (hR : RSc S S' out ex (M 143)) : wp (d_X9_forecast M) (fun _ M1 => frc M1 (runS S' (rl S' out ex) 80) ∧ fcf M M1) := by
  unfold d_X9_forecast
  rw [wq_bd]
  refine wp_mono (begins_spec hi hr (hR.1 1 (by decide)) (hR.1 5 (by decide)) (fun b hb => (hR.2.1 b hb).2.1) (rl S' out ex)) (fun r M1 q => ?_)
  obtain ⟨z1, z2⟩ := q
  have hr1 : rv (M1 144) (S, W) := by rw [z2.1 144 (by decide) (by decide) (by decide) (by decide)]; exact hr
  rw [show (1 : Int32) = I ((0 + 1 : Nat) : Int) from rfl]
  refine fcst_L hi hs 80 fuelN 0 M1 (by omega) (by unfold fuelN; omega) hr1 (RSc_c hR (fun j h1 h2 => z2.2 j (by omega))) z1 (fun M2 y1 y2 => ?_)
  rw [wq_some]
  exact ⟨y1, fcf_t z2 y2⟩
/-- as it stands: the plain scenario, or one without a booking -/
theorem RSc_out {S : Nat → Int} {f : Nat → Int32} {out : Int} (ho : -1 ≤ out ∧ out ≤ 60) (h13 : f 13 = I out) (h14 : f 14 = I (-1)) (h11 : f 11 = I (-1)) : RSc S S out false f := by
  obtain ⟨ms, -, e15⟩ := of_I (f 15)
  obtain ⟨es, -, e12⟩ := of_I (f 12)
  exact ⟨fun _ _ => rfl, fun _ _ => ⟨rfl, rfl, rfl⟩, ⟨h13, ho⟩, ⟨-1, ms, h14, e15, by omega, fun b hb => by rw [if_neg (by omega)]⟩, ⟨-1, es, h11, e12, ⟨fun h => (by cases h), fun h => absurd h (by omega)⟩, by omega, fun h => absurd h (by omega)⟩⟩
theorem ok_plain {S : Nat → Int} {W : List Wi} (hi : SInv (S, W)) : ScOk S (rl S (-1) false) := scn_ok hi (sc_plain S (-1) (by omega)) (fun h => absurd rfl h) (fun h => absurd rfl h)
theorem ok_out {S : Nat → Int} {W : List Wi} (hi : SInv (S, W)) (k : Nat) : ScOk S (rl S k false) := scn_ok hi (sc_out S k) (fun h => absurd rfl h) (fun h => absurd rfl h)
/-- the tick of a booking's spoiling in a forecast; 0: none -/
def spS (S : Nat → Int) (out : Int) (ex : Bool) (b : Nat) : Int := ((runS S (rl S out ex) 80).2.2 b).2.1
theorem spS_b {S : Nat → Int} {out : Int} {ex : Bool} (hs : ScOk S (rl S out ex)) (b : Nat) : 0 ≤ spS S out ex b ∧ spS S out ex b ≤ 10000 := by
  have g0 := hs.1
  by_cases c : b ∈ rl S out ex
  · have := ((run_FI hs 80).2 b c).2.1
    unfold spS
    omega
  · unfold spS
    rw [run_out c 80]
    unfold D0
    split <;> (dsimp only; omega)
theorem spS_3 {S : Nat → Int} {out : Int} {ex : Bool} (hs : ScOk S (rl S out ex)) {b : Nat} (hb : b ∈ rl S out ex) : (((runS S (rl S out ex) 80).2.2 b).1 = 3) = (0 < spS S out ex b) := propext ((run_FI hs 80).2 b hb).2.2.2.1
theorem spS_0 {S : Nat → Int} {out : Int} {ex : Bool} {b : Nat} (hb : b ∉ rl S out ex) : spS S out ex b = 0 := by
  unfold spS
  rw [run_out hb 80]
  unfold D0
  split <;> rfl
def doomS (S : Nat → Int) : Int := cntS S (fun b => decide (0 < spS S (-1) false b))
theorem doomS_c {S : Nat → Int} {W : List Wi} (hi : SInv (S, W)) : (((rl S (-1) false).countP (fun b => decide (((runS S (rl S (-1) false) 80).2.2 b).1 = 3)) : Nat) : Int) = doomS S := by
  have hs := ok_plain hi
  unfold doomS cntS
  rw [List.countP_congr (q := fun b => decide (0 < spS S (-1) false b)) (fun b hb => by rw [decide_eq_true_iff, decide_eq_true_iff, spS_3 hs hb])]
  unfold rl
  rw [if_neg (by decide), List.append_nil, List.countP_filter]
  congr 1
  refine List.countP_congr (fun b hb => ?_)
  have hb5 := List.mem_range'_1.mp hb
  rw [Bool.and_eq_true, decide_eq_true_iff]
  constructor
  · exact fun h => h.1
  · intro h
    refine ⟨h, ?_⟩
    by_cases c : b ∈ rl S (-1) false
    · rcases rl_mem.mp c with hh | hh
      · exact decide_eq_true hh.2
      · exact absurd hh.1 (by decide)
    · rw [spS_0 c] at h
      exact absurd h (by omega)
theorem rdoom_L {S : Nat → Int} {W : List Wi} (hi : SInv (S, W)) {M : Mem} (hr : rv (M 144) (S, W)) {sp : Nat → Int} (hsp : ∀ b, b ≤ 60 → M 149 b = I (sp b) ∧ 0 ≤ sp b ∧ sp b ≤ 10000) {kx : Int32 → Mem → Ans} : ∀ (d n x : Nat) (a : Int), (x : Int) + d = S 5 → d < n → d_X9_doomed_L8 kx n (I a) (I x) M = kx (I (a + ((List.range' x d).countP (fun b => decide (0 < sp b)) : Nat))) M
  | 0, n + 1, x, a, hx, hn => by
    have h5 := (si_n hi).2.2.2.2.2.1
    have e5 := (rv_n hr).2.2.2.2.2.1
    rw [sd_X9_doomed_L8]
    unfold d_X9_doomed_L8_body
    simp (disch := first | omega | (unfold sm; omega)) only [wq_bd, wq_some, wq_bnd, wq_ite, bnd_e, bd_some, lit_, neg_I, I_lt, I_le, I_eq, I_add, I_sub, I_mul, I_clamp, chk_I, wchk_I, I_succ, Int.toNat_natCast, Int.reduceToNat, b01, b01I, bd_ite, if_true, if_false, ite_self, reduceIte, Int.reduceLE, Int.reduceLT, Int.reduceAdd, Int.reduceSub, Int.reduceNeg, Nat.reduceEqDiff, Nat.reduceAdd, e5]
    rw [if_pos (by omega)]
    exact congrFun (congrArg kx (congrArg I (show a = a + ((0 : Nat) : Int) by omega))) M
  | d + 1, n + 1, x, a, hx, hn => by
    have h5 := (si_n hi).2.2.2.2.2.1
    have e5 := (rv_n hr).2.2.2.2.2.1
    obtain ⟨v1, v2, v3⟩ := hsp x (by omega)
    have ih := fun a => rdoom_L hi hr hsp (kx := kx) d n (x + 1) a (by omega) (by omega)
    rw [sd_X9_doomed_L8, cnt_s]
    unfold d_X9_doomed_L8_body
    simp (disch := first | omega | (unfold sm; omega)) only [wq_bd, wq_some, wq_bnd, wq_ite, bnd_e, bd_some, lit_, neg_I, I_lt, I_le, I_eq, I_add, I_sub, I_mul, I_clamp, chk_I, wchk_I, I_succ, Int.toNat_natCast, Int.reduceToNat, b01, b01I, bd_ite, if_true, if_false, ite_self, reduceIte, Int.reduceLE, Int.reduceLT, Int.reduceAdd, Int.reduceSub, Int.reduceNeg, Nat.reduceEqDiff, Nat.reduceAdd, e5, v1, d_X9_doomed_B33, ih, Int.add_zero]
    rw [if_neg (by omega)]
    by_cases c : 0 < sp x
    · rw [if_neg (by omega), if_pos (decide_eq_true c)]
    · rw [if_pos (by omega), if_neg (by rw [decide_eq_false c]; decide)]
  | _, 0, _, _, _, hn => absurd hn (by omega)
/-- what a question to the reference may write -/
def rqf (M M1 : Mem) : Prop := (∀ i, i ≠ 143 → i < 148 ∨ 151 < i → M1 i = M i) ∧ ∀ j, j < 10 ∨ 16 < j → M1 143 j = M 143 j
theorem rqf_f {M M1 : Mem} (h : fcf M M1) : rqf M M1 := ⟨fun i a b => h.1 i a (by omega) (by omega) (by omega), fun j hj => h.2 j (by omega)⟩
theorem rqf_r (M : Mem) : rqf M M := ⟨fun _ _ _ => rfl, fun _ _ => rfl⟩
theorem rqf_t {M M1 M2 : Mem} (h : rqf M M1) (k : rqf M1 M2) : rqf M M2 := ⟨fun i a b => (k.1 i a b).trans (h.1 i a b), fun j a => (k.2 j a).trans (h.2 j a)⟩
theorem rqf_v {M M1 : Mem} (h : rqf M M1) {s : St} (hr : rv (M 144) s) : rv (M1 144) s := by rw [h.1 144 (by decide) (by decide)]; exact hr
theorem rqf_S {M M1 : Mem} (h : rqf M M1) (hsc : scR M1) {A : Ab} (hR : RSt M A) : RSt M1 A :=
  ⟨rqf_v h hR.1, RHist_congr hR.2.1 (h.2 2 (by decide)) (h.1 145 (by decide) (by decide)), snR_congr hR.2.2.1 (h.2 4 (by decide)) (h.1 146 (by decide) (by decide)), txR_congr hR.2.2.2.1 (h.2 18 (by decide)) (h.1 153 (by decide) (by decide)), hsc⟩
theorem rdoom_spec {S : Nat → Int} {W : List Wi} (hi : SInv (S, W)) {M : Mem} (hr : rv (M 144) (S, W)) (hsc : scR M) : wp (d_X9_doomed M) (fun r M1 => r = I (doomS S) ∧ scR M1 ∧ rqf M M1) := by
  have hs := ok_plain hi
  have h5 := (si_n hi).2.2.2.2.2.1
  unfold d_X9_doomed
  rw [wq_bd]
  refine wp_mono (fcst_spec hi hs hr (RSc_out (by omega) hsc.2.1 hsc.2.2 hsc.1)) (fun r M1 q => ?_)
  obtain ⟨z1, z2⟩ := q
  have hr1 := rqf_v (rqf_f z2) hr
  rw [show (0 : Int32) = I ((0 : Nat) : Int) from rfl, rdoom_L hi hr1 (sp := spS S (-1) false) (fun b hb => ⟨(z1.2 b hb).2.1, spS_b hs b⟩) (S 5).toNat fuelN 0 ((0 : Nat) : Int) (by omega) (by unfold fuelN; omega), wq_some]
  refine ⟨?_, scR_congr hsc (fun j h1 h2 => z2.2 j (by omega)), rqf_f z2⟩
  unfold doomS cntS
  congr 1
  omega
theorem base_L {kx : Mem → Ans} : ∀ (d n x : Nat) (M : Mem), x + d = 61 → d < n → d_X9_bases_L16 kx n (I x) M = kx (mset M 151 (fun j => if x ≤ j ∧ j < 61 then M 149 j else M 151 j))
  | 0, n + 1, x, M, hx, hn => by
    rw [sd_X9_bases_L16]
    unfold d_X9_bases_L16_body
    simp (disch := first | omega | (unfold sm; omega)) only [wq_bd, wq_some, wq_bnd, wq_ite, bnd_e, bd_some, lit_, neg_I, I_lt, I_le, I_eq, I_add, I_sub, I_mul, I_clamp, chk_I, wchk_I, I_succ, Int.toNat_natCast, Int.reduceToNat, b01, b01I, bd_ite, if_true, if_false, ite_self, reduceIte, Int.reduceLE, Int.reduceLT, Int.reduceAdd, Int.reduceSub, Int.reduceNeg, Nat.reduceEqDiff, Nat.reduceAdd]
    rw [if_pos (by omega), mset_self]
    intro j
    rw [if_neg (by omega)]
  | d + 1, n + 1, x, M, hx, hn => by
    have ih := fun M => base_L (kx := kx) d n (x + 1) M (by omega) (by omega)
    rw [sd_X9_bases_L16]
    unfold d_X9_bases_L16_body
    simp (disch := first | omega | (unfold sm; omega)) only [wq_bd, wq_some, wq_bnd, wq_ite, bnd_e, bd_some, lit_, neg_I, I_lt, I_le, I_eq, I_add, I_sub, I_mul, I_clamp, chk_I, wchk_I, I_succ, Int.toNat_natCast, Int.reduceToNat, b01, b01I, bd_ite, if_true, if_false, ite_self, reduceIte, Int.reduceLE, Int.reduceLT, Int.reduceAdd, Int.reduceSub, Int.reduceNeg, Nat.reduceEqDiff, Nat.reduceAdd, ih]
    rw [if_neg (by omega)]
    congr 1
    funext a b
    simp only [mset_a, mup_a]
    by_cases ha : a = 151
    · simp only [ha, if_true, show ((149 : Nat) = 151) = False from by decide, if_false]
      by_cases hb : b = x
      · subst hb
        rw [if_neg (by omega), if_pos rfl, if_pos (by omega)]
      · by_cases hb2 : x + 1 ≤ b ∧ b < 61
        · rw [if_pos hb2, if_pos (by omega)]
        · rw [if_neg hb2, if_neg hb, if_neg (by omega)]
    · simp only [ha, if_false]
  | _, 0, _, _, _, hn => absurd hn (by omega)
def baseR (M : Mem) (S : Nat → Int) (out : Int) : Prop := ∀ b, b ≤ 60 → M 151 b = I (spS S out false b)
theorem bases_spec {S : Nat → Int} {W : List Wi} (hi : SInv (S, W)) {M : Mem} (hr : rv (M 144) (S, W)) (hsc : scR M) {out : Int} (ho : out = -1 ∨ ∃ k : Nat, out = k ∧ k < 60) : wp (d_X9_bases (I out) M) (fun _ M1 => baseR M1 S out ∧ scR M1 ∧ rqf M M1) := by
  have hs : ScOk S (rl S out false) := by
    rcases ho with rfl | ⟨k, rfl, -⟩
    · exact ok_plain hi
    · exact ok_out hi k
  have ho' : -1 ≤ out ∧ out ≤ 60 := by rcases ho with rfl | ⟨k, rfl, h⟩ <;> omega
  unfold d_X9_bases
  rw [wq_bnd, wq_bd]
  refine wp_mono (fcst_spec hi hs (by rw [mup_n (by decide)]; exact hr) (RSc_out ho' (by rw [mup_s, upd_s]) (by rw [mup_s, upd_n (by decide)]; exact hsc.2.2) (by rw [mup_s, upd_n (by decide)]; exact hsc.1))) (fun r M1 q => ?_)
  obtain ⟨z1, z2⟩ := q
  rw [wq_bnd, show (0 : Int32) = I ((0 : Nat) : Int) from rfl, base_L 61 fuelN 0 _ (by omega) (by unfold fuelN; omega), wq_some]
  refine ⟨fun b hb => ?_, ⟨?_, ?_, ?_⟩, fun i i0 i1 => ?_, fun j hj => ?_⟩
  · rw [mset_s, if_pos (by omega), mup_n (by decide)]
    exact (z1.2 b hb).2.1
  · rw [mset_n (by decide), mup_s, upd_n (by decide), z2.2 11 (by decide), mup_s, upd_n (by decide)]
    exact hsc.1
  · rw [mset_n (by decide), mup_s, upd_s]
    rfl
  · rw [mset_n (by decide), mup_s, upd_n (by decide), z2.2 14 (by decide), mup_s, upd_n (by decide)]
    exact hsc.2.2
  · rw [mset_n (by omega), mup_n i0, z2.1 i i0 (by omega) (by omega) (by omega), mup_n i0]
  · rw [mset_n (by decide), mup_s, upd_n (by omega), z2.2 j (by omega), mup_s, upd_n (by omega)]
/-! why a booking doesn't fit: a new one, or one that would move -/
def caS (S : Nat → Int) (self : Option Nat) (rc st : Int) : Nat → Int := match self with | none => exS S rc st | some k => setS S (44 + 5 * k) st
def cox (self : Option Nat) : Bool := match self with | none => true | some _ => false
def cow (self : Option Nat) : Nat := match self with | none => 60 | some k => k
def cse (self : Option Nat) : Int := match self with | none => -1 | some k => k
def cbk (S : Nat → Int) (self : Option Nat) : Int := match self with | none => S 5 | some k => k
def CaOk (S : Nat → Int) (self : Option Nat) (rc : Nat) : Prop := (rc : Int) < S 4 ∧ match self with | none => True | some k => (k : Int) < S 5 ∧ S (45 + 5 * k) ≤ 1 ∧ S (43 + 5 * k) = rc
def spR (S : Nat → Int) (self : Option Nat) (rc : Nat) (st : Int) (b : Nat) : Int := spS (caS S self rc st) (-1) (cox self) b
def othS (S : Nat → Int) (self : Option Nat) (rc : Nat) (st : Int) : Option Nat := (List.range' 0 (S 5).toNat).find? (fun b => decide (b ≠ cow self ∧ 0 < spR S self rc st b ∧ spS S (cse self) false b = 0))
def codeS (S : Nat → Int) (self : Option Nat) (ro : Int) (rc : Nat) (st : Int) : Int :=
  if (meetS S ro st (lbS S rc st) (cse self)).isSome = true then 1 else if 0 < spR S self rc st (cow self) then 2 else if (othS S self rc st).isSome = true then 3 else 0
theorem sc_ca {S : Nat → Int} {W : List Wi} (hi : SInv (S, W)) {self : Option Nat} {rc : Nat} (h : CaOk S self rc) {st : Int} (hst : 1 ≤ st ∧ st ≤ 9060) : Scn S (caS S self rc st) (-1) (cox self) (cbk S self) rc st ∧ ScOk (caS S self rc st) (rl (caS S self rc st) (-1) (cox self)) := by
  have h5 := (si_n hi).2.2.2.2.2.1
  have h4 := (si_n hi).2.2.2.2.1
  have e : Scn S (caS S self rc st) (-1) (cox self) (cbk S self) rc st := by
    cases self with
    | none => exact sc_ex h5.2 hst.1
    | some k =>
      obtain ⟨-, h1, h2, h3⟩ := h
      have := sc_mv (S := S) h1 h2 hst.1
      rw [h3] at this
      exact this
  exact ⟨e, scn_ok hi e (fun _ => ⟨by omega, h.1⟩) (fun _ => hst)⟩
theorem cow_b {S : Nat → Int} {W : List Wi} (hi : SInv (S, W)) {self : Option Nat} {rc : Nat} (h : CaOk S self rc) : cow self ≤ 60 ∧ -1 ≤ cse self ∧ cse self < 60 ∧ 0 ≤ cbk S self ∧ cbk S self ≤ 60 := by
  have h5 := (si_n hi).2.2.2.2.2.1
  cases self with
  | none => unfold cow cse cbk; dsimp only; omega
  | some k =>
    obtain ⟨-, h1, -⟩ := h
    unfold cow cse cbk
    dsimp only
    omega
theorem oth_L {S : Nat → Int} {W : List Wi} (hi : SInv (S, W)) {self : Option Nat} {rc : Nat} {st : Int} {M : Mem} (hr : rv (M 144) (S, W)) (hb : baseR M S (cse self)) (hok : ScOk S (rl S (cse self) false)) (hsp : ∀ b, b ≤ 60 → M 149 b = I (spR S self rc st b) ∧ 0 ≤ spR S self rc st b ∧ spR S self rc st b ≤ 10000) (hcw : cow self ≤ 60) {kx : Mem → Ans} : ∀ (d n x : Nat), (x : Int) + d = S 5 → d < n → d_X9_reason_L93 (I (cow self)) kx n (I x) M = (match (List.range' x d).find? (fun b => decide (b ≠ cow self ∧ 0 < spR S self rc st b ∧ spS S (cse self) false b = 0)) with | some b => some (I 3, mup M 143 16 (I b)) | none => kx M)
  | 0, n + 1, x, hx, hn => by
    have h5 := (si_n hi).2.2.2.2.2.1
    have e5 := (rv_n hr).2.2.2.2.2.1
    rw [sd_X9_reason_L93]
    unfold d_X9_reason_L93_body
    simp (disch := first | omega | (unfold sm; omega)) only [wq_bd, wq_some, wq_bnd, wq_ite, bnd_e, bd_some, lit_, neg_I, I_lt, I_le, I_eq, I_add, I_sub, I_mul, I_clamp, chk_I, wchk_I, I_succ, Int.toNat_natCast, Int.reduceToNat, b01, b01I, bd_ite, if_true, if_false, ite_self, reduceIte, Int.reduceLE, Int.reduceLT, Int.reduceAdd, Int.reduceSub, Int.reduceNeg, Nat.reduceEqDiff, Nat.reduceAdd, e5]
    rw [if_pos (by omega)]
    rfl
  | d + 1, n + 1, x, hx, hn => by
    have h5 := (si_n hi).2.2.2.2.2.1
    have e5 := (rv_n hr).2.2.2.2.2.1
    obtain ⟨v1, v2, v3⟩ := hsp x (by omega)
    have hbx := hb x (by omega)
    have hbb := spS_b hok x
    have ih := oth_L hi hr hb hok hsp hcw (kx := kx) d n (x + 1) (by omega) (by omega)
    rw [sd_X9_reason_L93, List.range'_succ, List.find?_cons]
    unfold d_X9_reason_L93_body
    simp (disch := first | omega | (unfold sm; omega)) only [wq_bd, wq_some, wq_bnd, wq_ite, bnd_e, bd_some, lit_, neg_I, I_lt, I_le, I_eq, I_add, I_sub, I_mul, I_clamp, chk_I, wchk_I, I_succ, Int.toNat_natCast, Int.reduceToNat, b01, b01I, bd_ite, if_true, if_false, ite_self, reduceIte, Int.reduceLE, Int.reduceLT, Int.reduceAdd, Int.reduceSub, Int.reduceNeg, Nat.reduceEqDiff, Nat.reduceAdd, e5, v1, hbx, d_X9_reason_B139, ih]
    rw [if_neg (by omega)]
    by_cases c1 : (x : Int) = (cow self : Int)
    · rw [if_pos c1, decide_eq_false (by omega)]
    · rw [if_neg c1]
      by_cases c2 : 0 < spR S self rc st x
      · rw [if_neg (by omega)]
        by_cases c3 : spS S (cse self) false x = 0
        · rw [if_pos c3, decide_eq_true ⟨by omega, c2, c3⟩]
        · rw [if_neg c3, decide_eq_false (fun h => c3 h.2.2)]
      · rw [if_pos (by omega), decide_eq_false (by omega)]
  | _, 0, _, _, hn => absurd hn (by omega)
theorem ok_cse {S : Nat → Int} {W : List Wi} (hi : SInv (S, W)) (self : Option Nat) : ScOk S (rl S (cse self) false) := by
  cases self with
  | none => exact ok_plain hi
  | some k => exact ok_out hi k
theorem reason_spec {S : Nat → Int} {W : List Wi} (hi : SInv (S, W)) {self : Option Nat} {rc : Nat} (hca : CaOk S self rc) {st : Int} (hst : 1 ≤ st ∧ st ≤ 9060) {ro : Int} (hro : -2147483648 ≤ ro ∧ ro < 2147483648) {M : Mem} (hr : rv (M 144) (S, W)) (hsc : scR M) (hb : baseR M S (cse self)) : wp (d_X9_reason (I ro) (I rc) (I st) (I (cse self)) M) (fun r M1 => r = I (codeS S self ro rc st) ∧ scR M1 ∧ rqf M M1 ∧ baseR M1 S (cse self) ∧ (codeS S self ro rc st ≠ 1 → ∀ b, b ≤ 60 → M1 149 b = I (spR S self rc st b)) ∧ (codeS S self ro rc st = 3 → ∃ b, othS S self rc st = some b ∧ M1 143 16 = I b)) := by
  obtain ⟨hsc1, hsc2, hsc3⟩ := id hsc
  have hcw := cow_b hi hca
  have h4 := (si_n hi).2.2.2.2.1
  have h5 := (si_n hi).2.2.2.2.2.1
  have h0 := (si_n hi).1
  have hrc8 : rc < 8 := by have := hca.1; omega
  obtain ⟨hS1, hok⟩ := sc_ca hi hca hst
  have hrr := si_r hi hca.1
  unfold rcOk at hrr
  have hlb : -2147483648 ≤ lbS S rc st ∧ lbS S rc st < 2147483648 := by unfold lbS; omega
  have hoN := oN_sm hi ro st (lbS S rc st) (cse self) (z := -5) (by omega)
  unfold d_X9_reason
  rw [rlast_I hr hrc8]
  simp (disch := first | omega | (unfold sm; omega)) only [wq_bd, wq_some, wq_bnd, wq_ite, bnd_e, bd_some, lit_, neg_I, I_lt, I_le, I_eq, I_add, I_sub, I_mul, I_clamp, chk_I, wchk_I, I_succ, Int.toNat_natCast, Int.reduceToNat, b01, b01I, bd_ite, if_true, if_false, ite_self, reduceIte, Int.reduceLE, Int.reduceLT, Int.reduceAdd, Int.reduceSub, Int.reduceNeg, Nat.reduceEqDiff, Nat.reduceAdd, keep_I hr hi hro (show -2147483648 ≤ st ∧ st < 2147483648 by omega) hlb (show -2147483648 ≤ cse self ∧ cse self < 2147483648 by omega), oN_e]
  by_cases cm : meetS S ro st (lbS S rc st) (cse self) = none
  · rw [if_pos cm]
    have hcode : codeS S self ro rc st = if 0 < spR S self rc st (cow self) then 2 else if (othS S self rc st).isSome = true then 3 else 0 := by
      unfold codeS
      rw [cm, if_neg (by decide)]
    -- the forecast and what follows, set up either way
    have main : ∀ M', (∀ i, i ≠ 143 → M' i = M i) → (∀ j, j < 11 ∨ j = 13 ∨ 15 < j → M' 143 j = M 143 j) → RSc S (caS S self rc st) (-1) (cox self) (M' 143) → wp (d_X9_reason_B50 (I (cse self)) M') (fun r M1 => r = I (codeS S self ro rc st) ∧ scR M1 ∧ rqf M M1 ∧ baseR M1 S (cse self) ∧ (codeS S self ro rc st ≠ 1 → ∀ b, b ≤ 60 → M1 149 b = I (spR S self rc st b)) ∧ (codeS S self ro rc st = 3 → ∃ b, othS S self rc st = some b ∧ M1 143 16 = I b)) := by
      intro M' f0 f1 hR
      have hr' : rv (M' 144) (S, W) := by rw [f0 144 (by decide)]; exact hr
      unfold d_X9_reason_B50
      rw [wq_bd]
      refine wp_mono (fcst_spec hi hok hr' hR) (fun r M1 q => ?_)
      obtain ⟨z1, z2⟩ := q
      rw [wq_bnd, wq_bnd]
      have hM2 : ∃ M2, M2 = mup (mup M1 143 11 (-1)) 143 14 (-1) := ⟨_, rfl⟩
      obtain ⟨M2, hM2⟩ := hM2
      rw [← hM2]
      have g0 : ∀ i, i ≠ 143 → M2 i = M1 i := fun i hi => by rw [hM2, mup_n hi, mup_n hi]
      have hsc2' : scR M2 := ⟨by rw [hM2, mup_s, upd_n (by decide), mup_s, upd_s]; rfl, by rw [hM2, mup_s, upd_n (by decide), mup_s, upd_n (by decide), z2.2 13 (by decide), f1 13 (by decide)]; exact hsc2, by rw [hM2, mup_s, upd_s]; rfl⟩
      have hq2 : rqf M M2 := ⟨fun i i0 i1 => by rw [g0 i i0, z2.1 i i0 (by omega) (by omega) (by omega), f0 i i0], fun j hj => by rw [hM2, mup_s, upd_n (by omega), mup_s, upd_n (by omega), z2.2 j (by omega), f1 j (by omega)]⟩
      have hb2 : baseR M2 S (cse self) := fun b hb60 => by rw [g0 151 (by decide), z2.1 151 (by decide) (by decide) (by decide) (by decide), f0 151 (by decide)]; exact hb b hb60
      have hsp : ∀ b, b ≤ 60 → M2 149 b = I (spR S self rc st b) ∧ 0 ≤ spR S self rc st b ∧ spR S self rc st b ≤ 10000 := fun b hb60 => ⟨by rw [g0 149 (by decide)]; exact (z1.2 b hb60).2.1, spS_b hok b⟩
      have hr2 : rv (M2 144) (S, W) := rqf_v hq2 hr
      -- the rest, with its own number
      have fin : wp (d_X9_reason_B76 (I (cow self)) M2) (fun r M1 => r = I (codeS S self ro rc st) ∧ scR M1 ∧ rqf M M1 ∧ baseR M1 S (cse self) ∧ (codeS S self ro rc st ≠ 1 → ∀ b, b ≤ 60 → M1 149 b = I (spR S self rc st b)) ∧ (codeS S self ro rc st = 3 → ∃ b, othS S self rc st = some b ∧ M1 143 16 = I b)) := by
        obtain ⟨v1, v2, v3⟩ := hsp (cow self) hcw.1
        unfold d_X9_reason_B76
        simp (disch := first | omega | (unfold sm; omega)) only [wq_bd, wq_some, wq_bnd, wq_ite, bnd_e, bd_some, lit_, neg_I, I_lt, I_le, I_eq, I_add, I_sub, I_mul, I_clamp, chk_I, wchk_I, I_succ, Int.toNat_natCast, Int.reduceToNat, b01, b01I, bd_ite, if_true, if_false, ite_self, reduceIte, Int.reduceLE, Int.reduceLT, Int.reduceAdd, Int.reduceSub, Int.reduceNeg, Nat.reduceEqDiff, Nat.reduceAdd, v1]
        by_cases c : 0 < spR S self rc st (cow self)
        · rw [if_neg (by omega)]
          rw [hcode, if_pos c]
          exact ⟨rfl, hsc2', hq2, hb2, fun _ b hb60 => (hsp b hb60).1, fun h => absurd h (by decide)⟩
        · rw [if_pos (by omega)]
          rw [if_neg c] at hcode
          rw [show (I 0 : Int32) = I ((0 : Nat) : Int) from rfl, oth_L hi hr2 hb2 (ok_cse hi self) hsp hcw.1 (S 5).toNat fuelN 0 (by omega) (by unfold fuelN; omega)]
          have eo : (List.range' 0 (S 5).toNat).find? (fun b => decide (b ≠ cow self ∧ 0 < spR S self rc st b ∧ spS S (cse self) false b = 0)) = othS S self rc st := rfl
          rw [eo]
          cases ho : othS S self rc st with
          | none =>
            rw [ho] at hcode
            rw [if_neg (by decide)] at hcode
            dsimp only
            rw [wq_some, hcode]
            exact ⟨rfl, hsc2', hq2, hb2, fun _ b hb60 => (hsp b hb60).1, fun h => absurd h (by decide)⟩
          | some b =>
            rw [ho] at hcode
            rw [if_pos (show (some b).isSome = true from rfl)] at hcode
            dsimp only
            rw [wq_some, hcode]
            refine ⟨rfl, scR_congr hsc2' (fun j h1 h2 => by rw [mup_s, upd_n (by omega)]), ⟨fun i i0 i1 => by rw [mup_n i0]; exact hq2.1 i i0 i1, fun j hj => by rw [mup_s, upd_n (by omega)]; exact hq2.2 j hj⟩, fun y hy => by rw [mup_n (by decide)]; exact hb2 y hy, fun _ y hy => by rw [mup_n (by decide)]; exact (hsp y hy).1, fun _ => ⟨b, rfl, by rw [mup_s, upd_s]⟩⟩
      cases self with
      | none =>
        have e1 : cse none = -1 := rfl
        rw [e1] at fin ⊢
        simp (disch := first | omega | (unfold sm; omega)) only [wq_bd, wq_some, wq_bnd, wq_ite, bnd_e, bd_some, lit_, neg_I, I_lt, I_le, I_eq, I_add, I_sub, I_mul, I_clamp, chk_I, wchk_I, I_succ, Int.toNat_natCast, Int.reduceToNat, b01, b01I, bd_ite, if_true, if_false, ite_self, reduceIte, Int.reduceLE, Int.reduceLT, Int.reduceAdd, Int.reduceSub, Int.reduceNeg, Nat.reduceEqDiff, Nat.reduceAdd]
        exact fin
      | some k =>
        have e1 : cse (some k) = (k : Int) := rfl
        rw [e1] at fin hcw ⊢
        simp (disch := first | omega | (unfold sm; omega)) only [wq_bd, wq_some, wq_bnd, wq_ite, bnd_e, bd_some, lit_, neg_I, I_lt, I_le, I_eq, I_add, I_sub, I_mul, I_clamp, chk_I, wchk_I, I_succ, Int.toNat_natCast, Int.reduceToNat, b01, b01I, bd_ite, if_true, if_false, ite_self, reduceIte, Int.reduceLE, Int.reduceLT, Int.reduceAdd, Int.reduceSub, Int.reduceNeg, Nat.reduceEqDiff, Nat.reduceAdd]
        rw [if_pos (by omega)]
        exact fin
    cases self with
    | none =>
      have e1 : cse none = -1 := rfl
      rw [e1] at main ⊢
      simp (disch := first | omega | (unfold sm; omega)) only [wq_bd, wq_some, wq_bnd, wq_ite, bnd_e, bd_some, lit_, neg_I, I_lt, I_le, I_eq, I_add, I_sub, I_mul, I_clamp, chk_I, wchk_I, I_succ, Int.toNat_natCast, Int.reduceToNat, b01, b01I, bd_ite, if_true, if_false, ite_self, reduceIte, Int.reduceLE, Int.reduceLT, Int.reduceAdd, Int.reduceSub, Int.reduceNeg, Nat.reduceEqDiff, Nat.reduceAdd]
      refine main _ (fun i hi => by rw [mup_n hi, mup_n hi]) (fun j hj => by rw [mup_s, upd_n (by omega), mup_s, upd_n (by omega)]) ?_
      obtain ⟨ms, -, e15⟩ := of_I (M 143 15)
      refine ⟨hS1.1, fun b hb5 => ⟨exS_n (by omega), exS_n (by omega), exS_n (by omega)⟩, ⟨?_, by omega, by omega⟩, ⟨-1, ms, ?_, ?_, by omega, fun b hb5 => ?_⟩, rc, st, ?_, ?_, ⟨fun _ => by omega, fun _ => rfl⟩, by omega, fun _ => (hS1.2.2.2.2.2 rfl).2⟩
      · rw [mup_s, upd_n (by decide), mup_s, upd_n (by decide)]; exact hsc2
      · rw [mup_s, upd_n (by decide), mup_s, upd_n (by decide)]; exact hsc3
      · rw [mup_s, upd_n (by decide), mup_s, upd_n (by decide)]; exact e15
      · rw [if_neg (by omega)]; exact exS_n (by omega)
      · rw [mup_s, upd_n (by decide), mup_s, upd_s]
      · rw [mup_s, upd_s]
    | some k =>
      obtain ⟨-, k1, k2, k3⟩ := hca
      have e1 : cse (some k) = (k : Int) := rfl
      rw [e1] at main hcw ⊢
      rw [if_pos (by omega)]
      refine main _ (fun i hi => by rw [mup_n hi, mup_n hi]) (fun j hj => by rw [mup_s, upd_n (by omega), mup_s, upd_n (by omega)]) ?_
      obtain ⟨es, -, e12⟩ := of_I (M 143 12)
      refine ⟨hS1.1, fun b hb5 => ⟨setS_n (by omega), setS_n (by omega), setS_n (by omega)⟩, ⟨?_, by omega, by omega⟩, ⟨k, st, ?_, ?_, by omega, fun b hb5 => ?_⟩, -1, es, ?_, ?_, ⟨fun h => (by cases h), fun h => absurd h (by omega)⟩, by omega, fun h => absurd h (by omega)⟩
      · rw [mup_s, upd_n (by decide), mup_s, upd_n (by decide)]; exact hsc2
      · rw [mup_s, upd_n (by decide), mup_s, upd_s]
      · rw [mup_s, upd_s]
      · by_cases e : (b : Int) = k
        · have : b = k := by omega
          subst this
          rw [if_pos rfl]; exact setS_s
        · rw [if_neg e]; exact setS_n (by omega)
      · rw [mup_s, upd_n (by decide), mup_s, upd_n (by decide)]; exact hsc1
      · rw [mup_s, upd_n (by decide), mup_s, upd_n (by decide)]; exact e12
  · rw [if_neg cm]
    have hcode : codeS S self ro rc st = 1 := by
      unfold codeS
      rw [if_pos (by rw [Option.isSome_iff_ne_none]; exact cm)]
    rw [hcode]
    exact ⟨rfl, hsc, rqf_r M, hb, fun h => absurd rfl h, fun h => absurd h (by decide)⟩
/-! the earliest start -/
def firR (S : Nat → Int) (self : Option Nat) (ro : Int) (rc : Nat) : Nat → Int → Int
  | 0, _ => -5
  | d + 1, a => if codeS S self ro rc a = 0 then a else firR S self ro rc d (a + 1)
def firS (S : Nat → Int) (self : Option Nat) (ro : Int) (rc : Nat) (fr to : Int) : Int := firR S self ro rc (min to (S 0 + 60) + 1 - max fr (S 0 + 1)).toNat (max fr (S 0 + 1))
theorem firR_b {S : Nat → Int} {self : Option Nat} {ro : Int} {rc : Nat} : ∀ (d : Nat) (a : Int), firR S self ro rc d a = -5 ∨ (a ≤ firR S self ro rc d a ∧ firR S self ro rc d a < a + d)
  | 0, a => Or.inl rfl
  | d + 1, a => by
    unfold firR
    by_cases c : codeS S self ro rc a = 0
    · rw [if_pos c]; omega
    · rw [if_neg c]
      have := firR_b (S := S) (self := self) (ro := ro) (rc := rc) d (a + 1)
      omega
/-- a start that is found lies between the two, and ahead -/
theorem firS_b {S : Nat → Int} {self : Option Nat} {ro : Int} {rc : Nat} {fr to : Int} : firS S self ro rc fr to = -5 ∨ (S 0 < firS S self ro rc fr to ∧ firS S self ro rc fr to ≤ S 0 + 60 ∧ fr ≤ firS S self ro rc fr to) := by
  have := firR_b (S := S) (self := self) (ro := ro) (rc := rc) (min to (S 0 + 60) + 1 - max fr (S 0 + 1)).toNat (max fr (S 0 + 1))
  unfold firS
  omega
theorem codeS_b (S : Nat → Int) (self : Option Nat) (ro : Int) (rc : Nat) (st : Int) : 0 ≤ codeS S self ro rc st ∧ codeS S self ro rc st ≤ 3 := by
  unfold codeS
  split
  · omega
  · split
    · omega
    · split <;> omega
theorem first_L {S : Nat → Int} {W : List Wi} (hi : SInv (S, W)) {self : Option Nat} {rc : Nat} (hca : CaOk S self rc) {E : Int} (hE : -1000 ≤ E ∧ E ≤ 9060) {ro : Int} (hro : -2147483648 ≤ ro ∧ ro < 2147483648) : ∀ (d n : Nat) (a : Int) (M : Mem), (E + 1 - a).toNat = d → (1 ≤ a ∧ a ≤ 100000) → d < n → rv (M 144) (S, W) → scR M → baseR M S (cse self) → wp (d_X9_first_L58 (I ro) (I rc) (I (cse self)) (I E) (fun M4 => some (-5, M4)) n (I a) M) (fun r M1 => r = I (firR S self ro rc d a) ∧ scR M1 ∧ rqf M M1)
  | 0, n + 1, a, M, hx, ha, hn, hr, hsc, hb => by
    rw [sd_X9_first_L58]
    unfold d_X9_first_L58_body
    simp (disch := first | omega | (unfold sm; omega)) only [wq_bd, wq_some, wq_bnd, wq_ite, bnd_e, bd_some, lit_, neg_I, I_lt, I_le, I_eq, I_add, I_sub, I_mul, I_clamp, chk_I, wchk_I, I_succ, Int.toNat_natCast, Int.reduceToNat, b01, b01I, bd_ite, if_true, if_false, ite_self, reduceIte, Int.reduceLE, Int.reduceLT, Int.reduceAdd, Int.reduceSub, Int.reduceNeg, Nat.reduceEqDiff, Nat.reduceAdd]
    rw [if_pos (by omega)]
    exact ⟨rfl, hsc, rqf_r M⟩
  | d + 1, n + 1, a, M, hx, ha, hn, hr, hsc, hb => by
    rw [sd_X9_first_L58]
    unfold d_X9_first_L58_body
    simp (disch := first | omega | (unfold sm; omega)) only [wq_bd, wq_some, wq_bnd, wq_ite, bnd_e, bd_some, lit_, neg_I, I_lt, I_le, I_eq, I_add, I_sub, I_mul, I_clamp, chk_I, wchk_I, I_succ, Int.toNat_natCast, Int.reduceToNat, b01, b01I, bd_ite, if_true, if_false, ite_self, reduceIte, Int.reduceLE, Int.reduceLT, Int.reduceAdd, Int.reduceSub, Int.reduceNeg, Nat.reduceEqDiff, Nat.reduceAdd]
    rw [if_neg (by omega)]
    refine wp_mono (reason_spec hi hca (st := a) (by omega) hro hr hsc hb) (fun r M1 q => ?_)
    obtain ⟨q1, q2, q3, q4, -⟩ := q
    have hcb := codeS_b S self ro rc a
    rw [q1]
    unfold firR
    simp (disch := first | omega | (unfold sm; omega)) only [wq_bd, wq_some, wq_bnd, wq_ite, bnd_e, bd_some, lit_, neg_I, I_lt, I_le, I_eq, I_add, I_sub, I_mul, I_clamp, chk_I, wchk_I, I_succ, Int.toNat_natCast, Int.reduceToNat, b01, b01I, bd_ite, if_true, if_false, ite_self, reduceIte, Int.reduceLE, Int.reduceLT, Int.reduceAdd, Int.reduceSub, Int.reduceNeg, Nat.reduceEqDiff, Nat.reduceAdd]
    by_cases c : codeS S self ro rc a = 0
    · rw [if_pos c, if_pos c]
      exact ⟨rfl, q2, q3⟩
    · rw [if_neg c, if_neg c]
      exact wp_mono (first_L hi hca hE hro d n (a + 1) M1 (by omega) (by omega) (by omega) (rqf_v q3 hr) q2 q4) (fun r M2 z => ⟨z.1, z.2.1, rqf_t q3 z.2.2⟩)
  | _, 0, _, _, _, _, hn, _, _, _ => absurd hn (by omega)
theorem first_spec {S : Nat → Int} {W : List Wi} (hi : SInv (S, W)) {self : Option Nat} {rc : Nat} (hca : CaOk S self rc) {ro : Int} (hro : -2147483648 ≤ ro ∧ ro < 2147483648) {fr to : Int} (hf : -1000 ≤ fr ∧ fr ≤ 10000) (ht : -1000 ≤ to ∧ to ≤ 100000) {M : Mem} (hr : rv (M 144) (S, W)) (hsc : scR M) (hb : baseR M S (cse self)) : wp (d_X9_first (I ro) (I rc) (I fr) (I to) (I (cse self)) M) (fun r M1 => r = I (firS S self ro rc fr to) ∧ scR M1 ∧ rqf M M1) := by
  have h0 := (si_n hi).1
  have e0 := (rv_n hr).1
  have fin : ∀ A E, A = max fr (S 0 + 1) → E = min to (S 0 + 60) → wp (d_X9_first_L58 (I ro) (I rc) (I (cse self)) (I E) (fun M4 => some (-5, M4)) fuelN (I A) M) (fun r M1 => r = I (firS S self ro rc fr to) ∧ scR M1 ∧ rqf M M1) := by
    intro A E hA hE
    subst hA
    subst hE
    exact first_L hi hca (by omega) hro _ fuelN _ M rfl (by omega) (by unfold fuelN; omega) hr hsc hb
  unfold d_X9_first
  rw [show (-5 : Int32) = -(5 : Int32) from rfl] at fin
  simp (disch := first | omega | (unfold sm; omega)) only [wq_bd, wq_some, wq_bnd, wq_ite, bnd_e, bd_some, lit_, neg_I, I_lt, I_le, I_eq, I_add, I_sub, I_mul, I_clamp, chk_I, wchk_I, I_succ, Int.toNat_natCast, Int.reduceToNat, b01, b01I, bd_ite, if_true, if_false, ite_self, reduceIte, Int.reduceLE, Int.reduceLT, Int.reduceAdd, Int.reduceSub, Int.reduceNeg, Nat.reduceEqDiff, Nat.reduceAdd, e0, d_X9_first_B22, d_X9_first_B52] at fin ⊢
  by_cases c1 : fr ≤ S 0
  · rw [if_pos c1]
    by_cases c2 : S 0 + 60 ≤ to
    · rw [if_pos c2]
      exact fin _ _ (by omega) (by omega)
    · rw [if_neg c2]
      exact fin _ _ (by omega) (by omega)
  · rw [if_neg c1]
    by_cases c2 : S 0 + 60 ≤ to
    · rw [if_pos c2]
      exact fin _ _ (by omega) (by omega)
    · rw [if_neg c2]
      exact fin _ _ (by omega) (by omega)
/-! the class's judge -/
/-- what a question to the class may write -/
def cqf (M M1 : Mem) : Prop := ∀ i, i < 112 ∨ 134 ≤ i → M1 i = M i
theorem cqf_r (M : Mem) : cqf M M := fun _ _ => rfl
theorem cqf_t {M M1 M2 : Mem} (h : cqf M M1) (k : cqf M1 M2) : cqf M M2 := fun i hi => (k i hi).trans (h i hi)
theorem cqf_v {M M1 : Mem} (h : cqf M M1) {s : St} (hc : cv 0 M s) : cv 0 M1 s := cv_congr hc (fun j hj => h _ (by unfold sI; omega))
theorem cqf_S {M M1 : Mem} (h : cqf M M1) {A : Ab} (hC : CSt M A) : CSt M1 A := CSt_fr hC (fun i hi => h i (by omega))
def baseC (M : Mem) (S : Nat → Int) (out : Int) : Prop := ∀ b, b < 60 → M 133 b = if 0 < spS S out false b then 1 else 0
theorem fw1_L {kx : Mem → Ans} {Q : Int32 → Mem → Prop} : ∀ (d n x : Nat) (M : Mem), x + d = 60 → d < n → (∀ b, b < x → M 133 b = 0) → (∀ M1, (∀ b, b < 60 → M1 133 b = 0) → (∀ i, i ≠ 133 → M1 i = M i) → wp (kx M1) Q) → wp (d_X3_forecastWithout_L20 0 kx n (I x) M) Q
  | 0, n + 1, x, M, hx, hn, h, k => by
    rw [sd_X3_forecastWithout_L20]
    unfold d_X3_forecastWithout_L20_body
    simp (disch := first | omega | (unfold sm; omega)) only [wq_bd, wq_some, wq_bnd, wq_ite, bnd_e, bd_some, lit_, neg_I, I_lt, I_le, I_eq, I_add, I_sub, I_mul, I_clamp, chk_I, wchk_I, I_succ, Int.toNat_natCast, Int.reduceToNat, b01, b01I, bd_ite, if_true, if_false, ite_self, reduceIte, Int.reduceLE, Int.reduceLT, Int.reduceAdd, Int.reduceSub, Int.reduceNeg, Nat.reduceEqDiff, Nat.reduceAdd]
    rw [if_pos (by omega)]
    have : x = 60 := by omega
    subst this
    exact k M h (fun _ _ => rfl)
  | d + 1, n + 1, x, M, hx, hn, h, k => by
    rw [sd_X3_forecastWithout_L20]
    unfold d_X3_forecastWithout_L20_body
    rw [show vp_nar .boolean (0 : Int32) = 0 from rfl]
    simp (disch := first | omega | (unfold sm; omega)) only [wq_bd, wq_some, wq_bnd, wq_ite, bnd_e, bd_some, lit_, neg_I, I_lt, I_le, I_eq, I_add, I_sub, I_mul, I_clamp, chk_I, wchk_I, I_succ, Int.toNat_natCast, Int.reduceToNat, b01, b01I, bd_ite, if_true, if_false, ite_self, reduceIte, Int.reduceLE, Int.reduceLT, Int.reduceAdd, Int.reduceSub, Int.reduceNeg, Nat.reduceEqDiff, Nat.reduceAdd]
    rw [if_neg (by omega)]
    refine fw1_L d n (x + 1) _ (by omega) (by omega) (fun b hb => ?_) (fun M1 z1 z2 => k M1 z1 (fun i hi => by rw [z2 i hi, mup_n hi]))
    rw [mup_s]
    by_cases e : b = x
    · subst e; rw [upd_s]; rfl
    · rw [upd_n e]; exact h b (by omega)
  | _, 0, _, _, _, hn, _, _ => absurd hn (by omega)
theorem fw2_L {S : Nat → Int} {out : Int} (hs : ScOk S (rl S out false)) {kx : Mem → Ans} {Q : Int32 → Mem → Prop} : ∀ (d n x : Nat) (M : Mem), x + d = (rl S out false).length → d < n → crE 1 M S (rl S out false) → (∀ b, b < 60 → M 133 b = if b ∈ (rl S out false).take x ∧ 0 < spS S out false b then 1 else 0) → (∀ M1, (∀ b, b < 60 → M1 133 b = if b ∈ rl S out false ∧ 0 < spS S out false b then 1 else 0) → (∀ i, i ≠ 133 → M1 i = M i) → wp (kx M1) Q) → wp (d_X3_forecastWithout_L41 0 kx n (I x) M) Q
  | 0, n + 1, x, M, hx, hn, hE, h, k => by
    have h6 := hE.1
    have hlen := hs.2.2.2.2.2.2.2.2
    rw [sd_X3_forecastWithout_L41]
    unfold d_X3_forecastWithout_L41_body
    simp (disch := first | omega | (unfold sm; omega)) only [wq_bd, wq_some, wq_bnd, wq_ite, bnd_e, bd_some, lit_, neg_I, I_lt, I_le, I_eq, I_add, I_sub, I_mul, I_clamp, chk_I, wchk_I, I_succ, Int.toNat_natCast, Int.reduceToNat, b01, b01I, bd_ite, if_true, if_false, ite_self, reduceIte, Int.reduceLE, Int.reduceLT, Int.reduceAdd, Int.reduceSub, Int.reduceNeg, Nat.reduceEqDiff, Nat.reduceAdd, h6]
    rw [if_pos (by omega)]
    rw [List.take_of_length_le (by omega)] at h
    exact k M h (fun _ _ => rfl)
  | d + 1, n + 1, x, M, hx, hn, hE, h, k => by
    have h6 := hE.1
    have hlen := hs.2.2.2.2.2.2.2.2
    have hnd := hs.2.2.2.2.2.2.2.1
    have hget : (rl S out false)[x]? = some (rl S out false)[x] := List.getElem?_eq_getElem (by omega)
    have hm : (rl S out false)[x] ∈ rl S out false := List.mem_of_getElem? hget
    have h5 := hs.2.2.2.2.2.1
    have hb5 : (((rl S out false)[x] : Nat) : Int) < S 5 := by
      rcases rl_mem.mp hm with hh | hh
      · exact hh.1
      · exact absurd hh.1 (by decide)
    obtain ⟨⟨r1, -⟩, r2, -⟩ := hE.2 x _ hget
    have hce := ((run_FI hs 80).2 _ hm).1
    have h3 := spS_3 hs hm
    have etake : (rl S out false).take (x + 1) = (rl S out false).take x ++ [(rl S out false)[x]] := List.take_succ_eq_append_getElem (by omega)
    have hni : (rl S out false)[x] ∉ (rl S out false).take x := fun hh => by
      obtain ⟨y, hy, e⟩ := List.getElem_of_mem hh
      rw [List.length_take] at hy
      rw [List.getElem_take] at e
      have := (List.getElem_inj (h₀ := by omega) (h₁ := by omega) hnd).mp e
      omega
    generalize (rl S out false)[x] = b at *
    have enm : nmS S b = b := by unfold nmS; rw [if_neg (by omega)]
    rw [enm] at r1
    rw [sd_X3_forecastWithout_L41]
    unfold d_X3_forecastWithout_L41_body
    simp (disch := first | omega | (unfold sm; omega)) only [wq_bd, wq_some, wq_bnd, wq_ite, bnd_e, bd_some, lit_, neg_I, I_lt, I_le, I_eq, I_add, I_sub, I_mul, I_clamp, chk_I, wchk_I, I_succ, Int.toNat_natCast, Int.reduceToNat, b01, b01I, bd_ite, if_true, if_false, ite_self, reduceIte, Int.reduceLE, Int.reduceLT, Int.reduceAdd, Int.reduceSub, Int.reduceNeg, Nat.reduceEqDiff, Nat.reduceAdd, h6, r1, r2, d_X3_forecastWithout_B100]
    rw [if_neg (by omega), if_neg (by omega), if_neg (by omega)]
    have fin : ∀ v : Int32, (vp_nar .boolean v = if 0 < spS S out false b then 1 else 0) → wp (d_X3_forecastWithout_B99 0 kx (d_X3_forecastWithout_L41 0 kx n) (I x) v (I b) M) Q := by
      intro v hv
      unfold d_X3_forecastWithout_B99
      simp (disch := first | omega | (unfold sm; omega)) only [wq_bd, wq_some, wq_bnd, wq_ite, bnd_e, bd_some, lit_, neg_I, I_lt, I_le, I_eq, I_add, I_sub, I_mul, I_clamp, chk_I, wchk_I, I_succ, Int.toNat_natCast, Int.reduceToNat, b01, b01I, bd_ite, if_true, if_false, ite_self, reduceIte, Int.reduceLE, Int.reduceLT, Int.reduceAdd, Int.reduceSub, Int.reduceNeg, Nat.reduceEqDiff, Nat.reduceAdd, d_X3_forecastWithout_B100]
      refine fw2_L hs d n (x + 1) _ (by omega) (by omega) ⟨by rw [mup_n (by unfold cI; omega)]; exact h6, fun r y hr => rowC_congr (hE.2 r y hr) (fun j h1 h2 => by rw [mup_n (by unfold cI; omega)])⟩ (fun y hy => ?_) (fun M1 z1 z2 => k M1 z1 (fun i hi => by rw [z2 i hi, mup_n hi]))
      rw [mup_s, etake]
      by_cases e : y = b
      · subst e
        rw [upd_s, hv]
        by_cases c : 0 < spS S out false y
        · rw [if_pos c, if_pos ⟨List.mem_append_right _ (List.mem_singleton.mpr rfl), c⟩]
        · rw [if_neg c, if_neg (fun hh => c hh.2)]
      · rw [upd_n e, h y hy]
        by_cases c : y ∈ (rl S out false).take x ∧ 0 < spS S out false y
        · rw [if_pos c, if_pos ⟨List.mem_append_left _ c.1, c.2⟩]
        · rw [if_neg c, if_neg]
          intro hh
          rcases List.mem_append.mp hh.1 with hh1 | hh1
          · exact c ⟨hh1, hh.2⟩
          · exact e (List.mem_singleton.mp hh1)
    by_cases c : ((runS S (rl S out false) 80).2.2 b).1 = 3
    · rw [if_pos c]
      rw [h3] at c
      exact fin (I 1) (by rw [if_pos c, show (I 1 : Int32) = 1 from rfl]; rfl)
    · rw [if_neg c]
      rw [h3] at c
      exact fin (I 0) (by rw [if_neg c, show (I 0 : Int32) = 0 from rfl]; rfl)
  | _, 0, _, _, _, hn, _, _, _ => absurd hn (by omega)
theorem fw_spec {S : Nat → Int} {W : List Wi} (hi : SInv (S, W)) {M : Mem} (hc : cv 0 M (S, W)) (self : Option Nat) (hb : 0 ≤ cbk S self ∧ cbk S self ≤ 60) : wp (d_X3_forecastWithout 0 (I (cbk S self)) M) (fun _ M1 => baseC M1 S (cse self) ∧ cqf M M1) := by
  have h4 := (si_n hi).2.2.2.2.1
  have hs := ok_cse hi self
  have hsc : Scn S S (cse self) false (cbk S self) (-1) (-1) := by
    cases self with
    | none => exact sc_plain S _ (Or.inr rfl)
    | some k => exact sc_out S k
  unfold d_X3_forecastWithout
  rw [wq_bd, show (-1 : Int32) = I (-1) from rfl]
  refine wp_mono (begW_spec (c := 1) hc hi hsc (by omega) (by omega) (fun h => absurd rfl h) (by omega) hs) (fun r M1 q => ?_)
  obtain ⟨q1, q2⟩ := q
  rw [wq_bd]
  refine wp_mono (cend_spec hs q1) (fun r M2 z => ?_)
  obtain ⟨z1, z2⟩ := z
  have hq : cqf M M2 := fun i hi => (z2 i (by omega)).trans (q2 i (by omega))
  rw [show (0 : Int32) = I ((0 : Nat) : Int) from rfl]
  refine fw1_L 60 fuelN 0 M2 (by omega) (by unfold fuelN; omega) (fun b hb => absurd hb (by omega)) (fun M3 y1 y2 => ?_)
  have hlen := hs.2.2.2.2.2.2.2.2
  have hE3 : crE 1 M3 S (rl S (cse self) false) := ⟨by rw [y2 _ (by unfold cI; omega)]; exact z1.1, fun r b hr => rowC_congr (z1.2 r b hr) (fun j h1 h2 => by rw [y2 _ (by unfold cI; omega)])⟩
  refine fw2_L hs _ fuelN 0 M3 (Nat.zero_add _) (by unfold fuelN; omega) hE3 (fun b hb => ?_) (fun M4 x1 x2 => ?_)
  · rw [y1 b hb, List.take_zero, if_neg (fun hh => by cases hh.1)]
  · rw [wq_some]
    refine ⟨fun b hb => ?_, fun i hi => by rw [x2 i (by omega), y2 i (by omega), hq i hi]⟩
    rw [x1 b hb]
    by_cases c : 0 < spS S (cse self) false b
    · rw [if_pos c, if_pos]
      refine ⟨?_, c⟩
      by_cases e : b ∈ rl S (cse self) false
      · exact e
      · rw [spS_0 e] at c
        exact absurd c (by omega)
    · rw [if_neg c, if_neg (fun hh => c hh.2)]
/-! the class's judge: the reason -/
theorem meet_bt {S : Nat → Int} (self : Option Nat) (ro f l : Int) : meetS S ro f l (cbk S self) = meetS S ro f l (cse self) := by
  cases self with
  | some k => rfl
  | none =>
    have e : ∀ (L : List Nat), (∀ b ∈ L, (b : Int) < S 5) → L.find? (kpP S ro f l (S 5)) = L.find? (kpP S ro f l (-1)) := by
      intro L
      induction L with
      | nil => intro _; rfl
      | cons b L ih =>
        intro h
        have hb := h b List.mem_cons_self
        rw [List.find?_cons, List.find?_cons, ih (fun y hy => h y (List.mem_cons_of_mem _ hy))]
        have : kpP S ro f l (S 5) b = kpP S ro f l (-1) b := by
          unfold kpP
          refine decide_eq_decide.mpr ?_
          omega
        rw [this]
    exact e _ (fun b hb => by have := List.mem_range'_1.mp hb; omega)
def othQ (S : Nat → Int) (self : Option Nat) (rc : Nat) (st : Int) (b : Nat) : Bool := decide (b ≠ cow self ∧ 0 < spR S self rc st b ∧ spS S (cse self) false b = 0)
theorem caS_5 {S : Nat → Int} {self : Option Nat} {rc : Nat} {st : Int} : caS S self rc st 5 = S 5 := by
  cases self with
  | none => exact exS_n (by omega)
  | some k => exact setS_n (by omega)
theorem oth_rows {S : Nat → Int} {self : Option Nat} {rc : Nat} {st : Int} : (rl (caS S self rc st) (-1) (cox self)).find? (othQ S self rc st) = othS S self rc st := by
  unfold othS
  have e1 : ((List.range' 0 (S 5).toNat).filter (inP (caS S self rc st) (-1))).find? (othQ S self rc st) = (List.range' 0 (S 5).toNat).find? (fun b => decide (b ≠ cow self ∧ 0 < spR S self rc st b ∧ spS S (cse self) false b = 0)) := by
    rw [List.find?_filter]
    have e : ∀ (L : List Nat), (∀ b ∈ L, (b : Int) < S 5) → L.find? (fun a => decide (inP (caS S self rc st) (-1) a = true ∧ othQ S self rc st a = true)) = L.find? (othQ S self rc st) := by
      intro L
      induction L with
      | nil => intro _; rfl
      | cons b L ih =>
        intro h
        have hb := h b List.mem_cons_self
        rw [List.find?_cons, List.find?_cons, ih (fun y hy => h y (List.mem_cons_of_mem _ hy))]
        have : decide (inP (caS S self rc st) (-1) b = true ∧ othQ S self rc st b = true) = othQ S self rc st b := by
          cases hq : othQ S self rc st b with
          | false => exact decide_eq_false (fun h => by cases h.2)
          | true =>
            have hq2 := of_decide_eq_true hq
            have hm : b ∈ rl (caS S self rc st) (-1) (cox self) := by
              by_cases c : b ∈ rl (caS S self rc st) (-1) (cox self)
              · exact c
              · have := hq2.2.1
                unfold spR at this
                rw [spS_0 c] at this
                exact absurd this (by omega)
            rcases rl_mem.mp hm with hh | hh
            · exact decide_eq_true ⟨decide_eq_true hh.2, rfl⟩
            · cases self with
              | none => exact absurd hh.2 hq2.1
              | some k => exact absurd (show (false : Bool) = true from hh.1) (by decide)
        rw [this]
    exact e (List.range' 0 (S 5).toNat) (fun b hb => by have := List.mem_range'_1.mp hb; omega)
  unfold rl
  rw [List.find?_append, caS_5, e1]
  cases self with
  | none =>
    have e2 : (if cox none = true then [60] else []).find? (othQ S none rc st) = none := by
      rw [show (if cox none = true then [60] else []) = [60] from rfl, List.find?_cons]
      have : othQ S none rc st 60 = false := decide_eq_false (fun h => h.1 rfl)
      rw [this]
      rfl
    rw [e2, Option.or_none]
  | some k =>
    have e2 : (if cox (some k) = true then [60] else []).find? (othQ S (some k) rc st) = none := by
      rfl
    rw [e2, Option.or_none]
theorem rbo_L {S : Nat → Int} {W : List Wi} (hi : SInv (S, W)) {self : Option Nat} {rc : Nat} (hca : CaOk S self rc) {st : Int} (hst : 1 ≤ st ∧ st ≤ 9060) {M : Mem} (hE : crE 1 M (caS S self rc st) (rl (caS S self rc st) (-1) (cox self))) (hb : baseC M S (cse self)) {kx : Mem → Ans} : ∀ (d n x : Nat), x + d = (rl (caS S self rc st) (-1) (cox self)).length → d < n → d_X3_reasonByOthers_L2 (I (cbk S self)) kx n (I x) M = (match ((rl (caS S self rc st) (-1) (cox self)).drop x).find? (othQ S self rc st) with | some b => some (I 3, mup (mup M 132 2 (I b)) 132 3 (I (spR S self rc st b))) | none => kx M)
  | 0, n + 1, x, hx, hn => by
    have h6 := hE.1
    have hs := (sc_ca hi hca hst).2
    have hlen := hs.2.2.2.2.2.2.2.2
    rw [sd_X3_reasonByOthers_L2]
    unfold d_X3_reasonByOthers_L2_body
    simp (disch := first | omega | (unfold sm; omega)) only [wq_bd, wq_some, wq_bnd, wq_ite, bnd_e, bd_some, lit_, neg_I, I_lt, I_le, I_eq, I_add, I_sub, I_mul, I_clamp, chk_I, wchk_I, I_succ, Int.toNat_natCast, Int.reduceToNat, b01, b01I, bd_ite, if_true, if_false, ite_self, reduceIte, Int.reduceLE, Int.reduceLT, Int.reduceAdd, Int.reduceSub, Int.reduceNeg, Nat.reduceEqDiff, Nat.reduceAdd, h6]
    rw [if_pos (by omega), List.drop_eq_nil_of_le (by omega)]
    rfl
  | d + 1, n + 1, x, hx, hn => by
    have h6 := hE.1
    have hs := (sc_ca hi hca hst).2
    have hcw := cow_b hi hca
    have h5 := (si_n hi).2.2.2.2.2.1
    have hlen := hs.2.2.2.2.2.2.2.2
    have hget : (rl (caS S self rc st) (-1) (cox self))[x]? = some (rl (caS S self rc st) (-1) (cox self))[x] := List.getElem?_eq_getElem (by omega)
    have hm : (rl (caS S self rc st) (-1) (cox self))[x] ∈ rl (caS S self rc st) (-1) (cox self) := List.mem_of_getElem? hget
    have edrop : (rl (caS S self rc st) (-1) (cox self)).drop x = (rl (caS S self rc st) (-1) (cox self))[x] :: (rl (caS S self rc st) (-1) (cox self)).drop (x + 1) := List.drop_eq_getElem_cons (by omega)
    have ih := rbo_L hi hca hst hE hb (kx := kx) d n (x + 1) (by omega) (by omega)
    obtain ⟨⟨r1, -⟩, r2, -, r4, -⟩ := hE.2 x _ hget
    have hce := ((run_FI hs 80).2 _ hm)
    have h3 := spS_3 hs hm
    generalize (rl (caS S self rc st) (-1) (cox self))[x] = b at *
    have hbm := rl_mem.mp hm
    rw [caS_5] at hbm
    have hnm : nmS (caS S self rc st) b = if b = 60 then S 5 else (b : Int) := by unfold nmS; rw [caS_5]
    have hnb : 0 ≤ nmS (caS S self rc st) b ∧ nmS (caS S self rc st) b ≤ 60 := by
      rw [hnm]
      split
      · omega
      · rcases hbm with hh | hh <;> omega
    have hown : (nmS (caS S self rc st) b = cbk S self) = (b = cow self) := by
      rw [hnm]
      cases self with
      | none =>
        unfold cbk cow
        dsimp only
        by_cases c : b = 60
        · rw [if_pos c]; exact propext ⟨fun _ => c, fun _ => rfl⟩
        · rw [if_neg c]
          refine propext ⟨fun e => ?_, fun e => absurd e c⟩
          rcases hbm with hh | hh
          · omega
          · exact absurd hh.2 c
      | some k =>
        unfold cbk cow
        dsimp only
        have : b ≠ 60 := by
          rcases hbm with hh | hh
          · omega
          · exact absurd (show (false : Bool) = true from hh.1) (by decide)
        rw [if_neg this]
        exact propext ⟨fun e => by omega, fun e => by omega⟩
    rw [sd_X3_reasonByOthers_L2, edrop, List.find?_cons]
    unfold d_X3_reasonByOthers_L2_body
    unfold ceOk at hce
    simp (disch := first | omega | (unfold sm; omega)) only [wq_bd, wq_some, wq_bnd, wq_ite, bnd_e, bd_some, lit_, neg_I, I_lt, I_le, I_eq, I_add, I_sub, I_mul, I_clamp, chk_I, wchk_I, I_succ, Int.toNat_natCast, Int.reduceToNat, b01, b01I, bd_ite, if_true, if_false, ite_self, reduceIte, Int.reduceLE, Int.reduceLT, Int.reduceAdd, Int.reduceSub, Int.reduceNeg, Nat.reduceEqDiff, Nat.reduceAdd, h6, r1, r2, d_X3_reasonByOthers_B69, ih]
    rw [if_neg (by omega)]
    by_cases c1 : b = cow self
    · rw [if_pos (by rw [hown]; exact c1), show othQ S self rc st b = false from decide_eq_false (fun h => h.1 c1)]
    · have hb5 : (b : Int) < S 5 := by
        rcases hbm with hh | hh
        · exact hh.1
        · exfalso
          cases self with
          | none => exact c1 hh.2
          | some k => exact absurd (show (false : Bool) = true from hh.1) (by decide)
      have enm : nmS (caS S self rc st) b = b := by rw [hnm, if_neg (by omega)]
      rw [if_neg (by rw [hown]; exact c1), enm]
      by_cases c2 : ((runS (caS S self rc st) (rl (caS S self rc st) (-1) (cox self)) 80).2.2 b).1 = 3
      · rw [if_pos c2]
        rw [h3] at c2
        have hd := hb b (by omega)
        unfold d_X3_wasDoomed
        rw [show M 133 (I (b : Int)).toNatClampNeg = if 0 < spS S (cse self) false b then 1 else 0 from by rw [I_clamp (by unfold sm; omega)]; exact hd]
        simp (disch := first | omega | (unfold sm; omega)) only [wq_bd, wq_some, wq_bnd, wq_ite, bnd_e, bd_some, lit_, neg_I, I_lt, I_le, I_eq, I_add, I_sub, I_mul, I_clamp, chk_I, wchk_I, I_succ, Int.toNat_natCast, Int.reduceToNat, b01, b01I, bd_ite, if_true, if_false, ite_self, reduceIte, Int.reduceLE, Int.reduceLT, Int.reduceAdd, Int.reduceSub, Int.reduceNeg, Nat.reduceEqDiff, Nat.reduceAdd]
        rw [if_neg (by omega), if_neg (by omega)]
        have hbb := spS_b (ok_cse hi self) b
        by_cases c3 : 0 < spS S (cse self) false b
        · rw [if_neg (fun h => h c3), show othQ S self rc st b = false from decide_eq_false (fun h => by have := h.2.2; omega)]
          rw [if_neg (by decide)]
          exact ih
        · rw [if_pos c3, show othQ S self rc st b = true from decide_eq_true ⟨c1, c2, by omega⟩]
          simp (disch := first | omega | (unfold sm; omega)) only [wq_bd, wq_some, wq_bnd, wq_ite, bnd_e, bd_some, lit_, neg_I, I_lt, I_le, I_eq, I_add, I_sub, I_mul, I_clamp, chk_I, wchk_I, I_succ, Int.toNat_natCast, Int.reduceToNat, b01, b01I, bd_ite, if_true, if_false, ite_self, reduceIte, Int.reduceLE, Int.reduceLT, Int.reduceAdd, Int.reduceSub, Int.reduceNeg, Nat.reduceEqDiff, Nat.reduceAdd, mup_n (show (cI 1 4) ≠ 132 by decide), r4]
          have : spC ((runS (caS S self rc st) (rl (caS S self rc st) (-1) (cox self)) 80).2.2 b).2.1 = spR S self rc st b := by
            unfold spC
            have c2' : 0 < ((runS (caS S self rc st) (rl (caS S self rc st) (-1) (cox self)) 80).2.2 b).2.1 := c2
            rw [if_neg (by omega)]
            rfl
          rw [this]
      · rw [if_neg c2]
        rw [h3] at c2
        rw [show othQ S self rc st b = false from decide_eq_false (fun h => c2 h.2.1)]
  | _, 0, _, _, hn => absurd hn (by omega)
def cuS (S : Nat → Int) (self : Option Nat) (ro : Int) (rc : Nat) (st : Int) : Int :=
  if codeS S self ro rc st = 1 then oN (-1) (meetS S ro st (lbS S rc st) (cse self)) else if codeS S self ro rc st = 3 then oN (-5) (othS S self rc st) else -5
def siS (S : Nat → Int) (self : Option Nat) (ro : Int) (rc : Nat) (st : Int) : Int :=
  if codeS S self ro rc st = 2 then spR S self rc st (cow self) else if codeS S self ro rc st = 3 then (match othS S self rc st with | some b => spR S self rc st b | none => -5) else -5
theorem cow_in {S : Nat → Int} {W : List Wi} (hi : SInv (S, W)) {self : Option Nat} {rc : Nat} (hca : CaOk S self rc) {st : Int} : cow self ∈ rl (caS S self rc st) (-1) (cox self) := by
  cases self with
  | none => exact rl_mem.mpr (Or.inr ⟨rfl, rfl⟩)
  | some k =>
    obtain ⟨-, h1, h2, h3⟩ := hca
    refine rl_mem.mpr (Or.inl ⟨?_, ?_, ?_⟩)
    · rw [caS_5]; exact h1
    · show setS S (44 + 5 * k) st (45 + 5 * k) ≤ 1
      rw [setS_n (by omega)]; exact h2
    · unfold cow; dsimp only; omega
theorem rnow_spec {S : Nat → Int} {W : List Wi} (hi : SInv (S, W)) {self : Option Nat} {rc : Nat} (hca : CaOk S self rc) {st : Int} (hst : 1 ≤ st ∧ st ≤ 9060) {ro : Int} (hro : -2147483648 ≤ ro ∧ ro < 2147483648) {M : Mem} (hc : cv 0 M (S, W)) (hb : baseC M S (cse self)) : wp (d_X3_reasonNow 0 (I (cbk S self)) (I ro) (I rc) (I st) M) (fun r M1 => r = I (codeS S self ro rc st) ∧ M1 132 2 = I (cuS S self ro rc st) ∧ M1 132 3 = I (siS S self ro rc st) ∧ baseC M1 S (cse self) ∧ cqf M M1) := by
  have hcw := cow_b hi hca
  have h4 := (si_n hi).2.2.2.2.1
  have h5 := (si_n hi).2.2.2.2.2.1
  have h0 := (si_n hi).1
  obtain ⟨hS1, hok⟩ := sc_ca hi hca hst
  have hrr := si_r hi hca.1
  unfold rcOk at hrr
  have hlb : -2147483648 ≤ lbS S rc st ∧ lbS S rc st < 2147483648 := by unfold lbS; omega
  have hoN := oN_sm hi ro st (lbS S rc st) (cse self) (z := -1) (by omega)
  have hc1 : ∀ v, cv 0 (mup M 132 3 v) (S, W) := fun v => cv_congr hc (fun j hj => by rw [mup_n (by unfold sI; omega)])
  unfold d_X3_reasonNow
  simp (disch := first | omega | (unfold sm; omega)) only [wq_bd, wq_some, wq_bnd, wq_ite, bnd_e, bd_some, lit_, neg_I, I_lt, I_le, I_eq, I_add, I_sub, I_mul, I_clamp, chk_I, wchk_I, I_succ, Int.toNat_natCast, Int.reduceToNat, b01, b01I, bd_ite, if_true, if_false, ite_self, reduceIte, Int.reduceLE, Int.reduceLT, Int.reduceAdd, Int.reduceSub, Int.reduceNeg, Nat.reduceEqDiff, Nat.reduceAdd, lastBusy_I (hc1 _) hi hca.1, meet_I (hc1 _) hi hro (show -2147483648 ≤ st ∧ st < 2147483648 by omega) hlb (show -2147483648 ≤ cbk S self ∧ cbk S self < 2147483648 by omega), meet_bt, mup_s, upd_s, oN_e]
  by_cases cm : meetS S ro st (lbS S rc st) (cse self) = none
  · rw [if_pos cm]
    have hcode : codeS S self ro rc st = if 0 < spR S self rc st (cow self) then 2 else if (othS S self rc st).isSome = true then 3 else 0 := by
      unfold codeS
      rw [cm, if_neg (by decide)]
    have hM3 : ∃ M3, M3 = mup (mup (mup M 132 3 (I (-5))) 132 2 (I (oN (-1) (meetS S ro st (lbS S rc st) (cse self))))) 132 2 (I (-5)) := ⟨_, rfl⟩
    obtain ⟨M3, hM3⟩ := hM3
    rw [← hM3]
    have f3 : ∀ i, i ≠ 132 → M3 i = M i := fun i hi => by rw [hM3, mup_n hi, mup_n hi, mup_n hi]
    have e2 : M3 132 2 = I (-5) := by rw [hM3, mup_s, upd_s]
    have e3 : M3 132 3 = I (-5) := by rw [hM3, mup_s, upd_n (by decide), mup_s, upd_n (by decide), mup_s, upd_s]
    have hc3 : cv 0 M3 (S, W) := cv_congr hc (fun j hj => f3 _ (by unfold sI; omega))
    refine wp_mono (begW_spec (c := 1) hc3 hi hS1 (by omega) (by have := hca.1; omega) (fun _ => by omega) (by omega) hok) (fun r M4 q => ?_)
    obtain ⟨q1, q2⟩ := q
    refine wp_mono (cend_spec hok q1) (fun r M5 z => ?_)
    obtain ⟨z1, z2⟩ := z
    have fr : ∀ i, i < 122 ∨ 132 ≤ i → M5 i = M3 i := fun i hi => (z2 i (by omega)).trans (q2 i (by omega))
    have hb5 : baseC M5 S (cse self) := fun b hb60 => by rw [fr 133 (by omega), f3 133 (by decide)]; exact hb b hb60
    have hq5 : cqf M M5 := fun i hi => (fr i (by omega)).trans (f3 i (by omega))
    have hin := cow_in hi hca (st := st)
    have e5c := caS_5 (S := S) (self := self) (rc := rc) (st := st)
    have hrng : ∀ b ∈ rl (caS S self rc st) (-1) (cox self), ((b : Int) < caS S self rc st 5 ∨ b = 60) := fun b hb => by
      rcases rl_mem.mp hb with hh | hh
      · exact Or.inl hh.1
      · exact Or.inr hh.2
    obtain ⟨x, x1, x2, x3⟩ := rowOf_some z1 hok.2.2.2.2.2.2.2.2 (by rw [e5c]; exact h5) hrng hin
    have hnm : nmS (caS S self rc st) (cow self) = cbk S self := by
      unfold nmS
      rw [e5c]
      cases self with
      | none => exact if_pos (show (60 : Nat) = 60 from rfl)
      | some k =>
        obtain ⟨-, k1, -⟩ := hca
        exact if_neg (show k ≠ 60 by omega)
    rw [hnm] at x3
    have hrow := z1.2 x _ x1
    have hce := ((run_FI hok 80).2 _ hin)
    unfold ceOk at hce
    have h3 := spS_3 hok hin
    have r2 := hrow.2.1
    have r4 := hrow.2.2.2.1
    rw [x3]
    simp (disch := first | omega | (unfold sm; omega)) only [wq_bd, wq_some, wq_bnd, wq_ite, bnd_e, bd_some, lit_, neg_I, I_lt, I_le, I_eq, I_add, I_sub, I_mul, I_clamp, chk_I, wchk_I, I_succ, Int.toNat_natCast, Int.reduceToNat, b01, b01I, bd_ite, if_true, if_false, ite_self, reduceIte, Int.reduceLE, Int.reduceLT, Int.reduceAdd, Int.reduceSub, Int.reduceNeg, Nat.reduceEqDiff, Nat.reduceAdd, r2, r4]
    rw [if_neg (by omega)]
    have hspb := spS_b hok (cow self)
    by_cases c : ((runS (caS S self rc st) (rl (caS S self rc st) (-1) (cox self)) 80).2.2 (cow self)).1 = 3
    · rw [if_pos c]
      rw [h3] at c
      have c' : 0 < spR S self rc st (cow self) := c
      rw [if_pos c'] at hcode
      have : spC ((runS (caS S self rc st) (rl (caS S self rc st) (-1) (cox self)) 80).2.2 (cow self)).2.1 = spR S self rc st (cow self) := by
        unfold spC
        have c2' : 0 < ((runS (caS S self rc st) (rl (caS S self rc st) (-1) (cox self)) 80).2.2 (cow self)).2.1 := c
        rw [if_neg (by omega)]
        rfl
      rw [this]
      unfold cuS siS
      rw [hcode]
      refine ⟨rfl, ?_, ?_, fun b hb60 => by rw [mup_n (by decide)]; exact hb5 b hb60, fun i hi => by rw [mup_n (by omega)]; exact hq5 i hi⟩
      · rw [mup_s, upd_n (by decide), fr 132 (by omega), e2, if_neg (by decide), if_neg (by decide)]
      · rw [mup_s, upd_s, if_pos rfl]
    · rw [if_neg c]
      rw [h3] at c
      have c' : ¬ 0 < spR S self rc st (cow self) := c
      rw [if_neg c'] at hcode
      unfold d_X3_reasonNow_B111 d_X3_reasonByOthers
      rw [wq_bd, show (0 : Int32) = I ((0 : Nat) : Int) from rfl, rbo_L hi hca hst z1 hb5 _ fuelN 0 (Nat.zero_add _) (by unfold fuelN; have := hok.2.2.2.2.2.2.2.2; omega), List.drop_zero, oth_rows]
      unfold cuS siS
      cases ho : othS S self rc st with
      | none =>
        rw [ho, if_neg (by decide)] at hcode
        dsimp only
        rw [wq_some, wq_some, hcode]
        refine ⟨rfl, ?_, ?_, hb5, hq5⟩
        · rw [fr 132 (by omega), e2, if_neg (by decide), if_neg (by decide)]
        · rw [fr 132 (by omega), e3, if_neg (by decide), if_neg (by decide)]
      | some b =>
        rw [ho, if_pos (show (some b).isSome = true from rfl)] at hcode
        dsimp only
        rw [wq_some, wq_some, hcode]
        refine ⟨rfl, ?_, ?_, fun y hy => by rw [mup_n (by decide), mup_n (by decide)]; exact hb5 y hy, fun i hi => by rw [mup_n (by omega), mup_n (by omega)]; exact hq5 i hi⟩
        · rw [mup_s, upd_n (by decide), mup_s, upd_s, if_neg (by decide), if_pos rfl]
          rfl
        · rw [mup_s, upd_s, if_neg (by decide), if_pos rfl]
  · rw [if_neg cm]
    have hcode : codeS S self ro rc st = 1 := by
      unfold codeS
      rw [if_pos (by rw [Option.isSome_iff_ne_none]; exact cm)]
    unfold cuS siS
    rw [hcode]
    refine ⟨rfl, ?_, ?_, fun b hb60 => by rw [mup_n (by decide), mup_n (by decide)]; exact hb b hb60, fun i hi => by rw [mup_n (by omega), mup_n (by omega)]⟩
    · rw [if_pos (show (1 : Int) = 1 from rfl)]
    · rw [upd_n (by decide), upd_s, if_neg (by decide), if_neg (by decide)]
/-! the class's judge: against, first fit; who is doomed -/
theorem rag_spec {S : Nat → Int} {W : List Wi} (hi : SInv (S, W)) {self : Option Nat} {rc : Nat} (hca : CaOk S self rc) {st : Int} (hst : 1 ≤ st ∧ st ≤ 9060) {ro : Int} (hro : -2147483648 ≤ ro ∧ ro < 2147483648) {M : Mem} (hc : cv 0 M (S, W)) : wp (d_X3_reasonAgainst 0 (I (cbk S self)) (I ro) (I rc) (I st) M) (fun r M1 => r = I (codeS S self ro rc st) ∧ M1 132 2 = I (cuS S self ro rc st) ∧ M1 132 3 = I (siS S self ro rc st) ∧ cqf M M1) := by
  have hcw := cow_b hi hca
  unfold d_X3_reasonAgainst
  rw [wq_bd]
  refine wp_mono (fw_spec hi hc self (by omega)) (fun r M1 q => ?_)
  rw [wq_bd]
  refine wp_mono (rnow_spec hi hca hst hro (cqf_v q.2 hc) q.1) (fun r M2 z => ?_)
  rw [wq_some]
  exact ⟨z.1, z.2.1, z.2.2.1, cqf_t q.2 z.2.2.2.2⟩
theorem ff_L {S : Nat → Int} {W : List Wi} (hi : SInv (S, W)) {self : Option Nat} {rc : Nat} (hca : CaOk S self rc) {E : Int} (hE : -1000 ≤ E ∧ E ≤ 9060) {ro : Int} (hro : -2147483648 ≤ ro ∧ ro < 2147483648) : ∀ (d n : Nat) (a : Int) (M : Mem), (E + 1 - a).toNat = d → (1 ≤ a ∧ a ≤ 100000) → d < n → cv 0 M (S, W) → baseC M S (cse self) → wp (d_X3_firstFit_L37 0 (I (cbk S self)) (I ro) (I rc) (I E) (fun M4 => some (-5, M4)) n (I a) M) (fun r M1 => r = I (firR S self ro rc d a) ∧ cqf M M1)
  | 0, n + 1, a, M, hx, ha, hn, hc, hb => by
    rw [sd_X3_firstFit_L37]
    unfold d_X3_firstFit_L37_body
    simp (disch := first | omega | (unfold sm; omega)) only [wq_bd, wq_some, wq_bnd, wq_ite, bnd_e, bd_some, lit_, neg_I, I_lt, I_le, I_eq, I_add, I_sub, I_mul, I_clamp, chk_I, wchk_I, I_succ, Int.toNat_natCast, Int.reduceToNat, b01, b01I, bd_ite, if_true, if_false, ite_self, reduceIte, Int.reduceLE, Int.reduceLT, Int.reduceAdd, Int.reduceSub, Int.reduceNeg, Nat.reduceEqDiff, Nat.reduceAdd]
    rw [if_pos (by omega)]
    exact ⟨rfl, cqf_r M⟩
  | d + 1, n + 1, a, M, hx, ha, hn, hc, hb => by
    rw [sd_X3_firstFit_L37]
    unfold d_X3_firstFit_L37_body
    simp (disch := first | omega | (unfold sm; omega)) only [wq_bd, wq_some, wq_bnd, wq_ite, bnd_e, bd_some, lit_, neg_I, I_lt, I_le, I_eq, I_add, I_sub, I_mul, I_clamp, chk_I, wchk_I, I_succ, Int.toNat_natCast, Int.reduceToNat, b01, b01I, bd_ite, if_true, if_false, ite_self, reduceIte, Int.reduceLE, Int.reduceLT, Int.reduceAdd, Int.reduceSub, Int.reduceNeg, Nat.reduceEqDiff, Nat.reduceAdd]
    rw [if_neg (by omega)]
    refine wp_mono (rnow_spec hi hca (st := a) (by omega) hro hc hb) (fun r M1 q => ?_)
    obtain ⟨q1, -, -, q4, q5⟩ := q
    have hcb := codeS_b S self ro rc a
    rw [q1]
    unfold firR
    simp (disch := first | omega | (unfold sm; omega)) only [wq_bd, wq_some, wq_bnd, wq_ite, bnd_e, bd_some, lit_, neg_I, I_lt, I_le, I_eq, I_add, I_sub, I_mul, I_clamp, chk_I, wchk_I, I_succ, Int.toNat_natCast, Int.reduceToNat, b01, b01I, bd_ite, if_true, if_false, ite_self, reduceIte, Int.reduceLE, Int.reduceLT, Int.reduceAdd, Int.reduceSub, Int.reduceNeg, Nat.reduceEqDiff, Nat.reduceAdd]
    by_cases c : codeS S self ro rc a = 0
    · rw [if_pos c, if_pos c]
      exact ⟨rfl, q5⟩
    · rw [if_neg c, if_neg c]
      exact wp_mono (ff_L hi hca hE hro d n (a + 1) M1 (by omega) (by omega) (by omega) (cqf_v q5 hc) q4) (fun r M2 z => ⟨z.1, cqf_t q5 z.2⟩)
  | _, 0, _, _, _, _, hn, _, _ => absurd hn (by omega)
theorem ff_spec {S : Nat → Int} {W : List Wi} (hi : SInv (S, W)) {self : Option Nat} {rc : Nat} (hca : CaOk S self rc) {ro : Int} (hro : -2147483648 ≤ ro ∧ ro < 2147483648) {fr to : Int} (hf : -1000 ≤ fr ∧ fr ≤ 10000) (ht : -1000 ≤ to ∧ to ≤ 100000) {M : Mem} (hc : cv 0 M (S, W)) : wp (d_X3_firstFit 0 (I (cbk S self)) (I ro) (I rc) (I fr) (I to) M) (fun r M1 => r = I (firS S self ro rc fr to) ∧ cqf M M1) := by
  have hcw := cow_b hi hca
  have h0 := (si_n hi).1
  unfold d_X3_firstFit
  rw [wq_bd]
  refine wp_mono (fw_spec hi hc self (by omega)) (fun r M1 q => ?_)
  have hc1 := cqf_v q.2 hc
  have e0 := (cv_n hc1).1
  rw [e0, show (1 : Int32) = I 1 from rfl, show (60 : Int32) = I 60 from rfl, I_add, I_add, imin_I (by unfold sm; omega) (by unfold sm; omega), imax_I (by unfold sm; omega) (by unfold sm; omega), wq_bnd, wq_bnd]
  refine wp_mono (ff_L hi hca (by omega) hro _ fuelN _ M1 rfl (by omega) (by unfold fuelN; omega) hc1 q.1) (fun r M2 z => ⟨z.1, cqf_t q.2 z.2⟩)
theorem fte_spec {S : Nat → Int} {W : List Wi} (hi : SInv (S, W)) {M : Mem} (hc : cv 0 M (S, W)) : wp (d_X8_forecastToEnd M) (fun _ M1 => crE 0 M1 S (rl S (-1) false) ∧ cqf M M1) := by
  have h4 := (si_n hi).2.2.2.2.1
  have hs := ok_plain hi
  unfold d_X8_forecastToEnd d_X1_begin
  rw [wq_bd, wq_bd, show (-1 : Int32) = I (-1) from rfl]
  refine wp_mono (begW_spec (c := 0) hc hi (sc_plain S (-1) (by omega)) (by omega) (by omega) (fun h => absurd rfl h) (by omega) hs) (fun r M1 q => ?_)
  rw [wq_some, wq_bd]
  refine wp_mono (cend_spec hs q.1) (fun r M2 z => ?_)
  rw [wq_some]
  exact ⟨z.1, fun i hi => (z.2 i (by omega)).trans (q.2 i (by omega))⟩
theorem cdoom_spec {S : Nat → Int} {W : List Wi} (hi : SInv (S, W)) {M : Mem} (hc : cv 0 M (S, W)) : wp (d_X8_countDoomed M) (fun r M1 => r = I (doomS S) ∧ cqf M M1) := by
  unfold d_X8_countDoomed
  rw [wq_bd]
  refine wp_mono (fte_spec hi hc) (fun r M1 q => ?_)
  rw [cspo_I q.1 (ok_plain hi), bd_some, wq_some, doomS_c hi]
  exact ⟨rfl, q.2⟩
/-- one state's cell changes behind a push, and the doomed are told -/
theorem b_setHeat (p : Int32) : Both (d_X8_setHeat p) (d_X9_setHeat p) := by
  obtain ⟨a, ha, rfl⟩ := of_I p
  intro A hA
  obtain ⟨⟨S, W⟩, l, o, T⟩ := A
  have hi : SInv (S, W) := hA.1
  obtain ⟨h0, h1, h2, h3, h4, h5, hl⟩ := si_n hi
  by_cases c : 0 ≤ a ∧ a ≤ 300
  · by_cases c2 : a = S 3
    · refine ⟨I (-5), ((S, W), l, o, T), hA, fun M h => ?_, fun M h => ?_⟩
      · have e2 := (cv_n h.1).2.2.2.1
        unfold d_X8_setHeat
        simp (disch := first | omega | (unfold sm; omega)) only [wq_bd, wq_some, wq_bnd, wq_ite, bnd_e, bd_some, lit_, neg_I, I_lt, I_le, I_eq, I_add, I_sub, I_mul, I_clamp, chk_I, wchk_I, I_succ, Int.toNat_natCast, Int.reduceToNat, b01, b01I, bd_ite, if_true, if_false, ite_self, reduceIte, Int.reduceLE, Int.reduceLT, Int.reduceAdd, Int.reduceSub, Int.reduceNeg, Nat.reduceEqDiff, Nat.reduceAdd, within_I, e2]
        rw [if_neg (fun h => h c), if_pos c2]
        exact ⟨trivial, h⟩
      · have e2 := (rv_n h.1).2.2.2.1
        unfold d_X9_setHeat
        simp (disch := first | omega | (unfold sm; omega)) only [wq_bd, wq_some, wq_bnd, wq_ite, bnd_e, bd_some, lit_, neg_I, I_lt, I_le, I_eq, I_add, I_sub, I_mul, I_clamp, chk_I, wchk_I, I_succ, Int.toNat_natCast, Int.reduceToNat, b01, b01I, bd_ite, if_true, if_false, ite_self, reduceIte, Int.reduceLE, Int.reduceLT, Int.reduceAdd, Int.reduceSub, Int.reduceNeg, Nat.reduceEqDiff, Nat.reduceAdd, rin_I, e2]
        rw [if_neg (fun h => h c), if_pos c2.symm]
        exact ⟨trivial, h⟩
    · have hi' : SInv (setS S 3 a, W) := by
        refine SI_set hi (by omega) _ ?_ ?_ ?_ <;> simp only [setS, if_true, Nat.reduceEqDiff, if_false] <;> omega
      refine ⟨I (doomS (setS S 3 a)), ((setS S 3 a, W), pushH l (S, W), o, T), AInv_push hA hi', fun M h => ?_, fun M h => ?_⟩
      · have e2 := (cv_n h.1).2.2.2.1
        unfold d_X8_setHeat
        simp (disch := first | omega | (unfold sm; omega)) only [wq_bd, wq_some, wq_bnd, wq_ite, bnd_e, bd_some, lit_, neg_I, I_lt, I_le, I_eq, I_add, I_sub, I_mul, I_clamp, chk_I, wchk_I, I_succ, Int.toNat_natCast, Int.reduceToNat, b01, b01I, bd_ite, if_true, if_false, ite_self, reduceIte, Int.reduceLE, Int.reduceLT, Int.reduceAdd, Int.reduceSub, Int.reduceNeg, Nat.reduceEqDiff, Nat.reduceAdd, within_I, e2]
        rw [if_neg (fun h => h c), if_neg c2]
        refine cpush hA h (fun r M1 k => ?_)
        have hc1 := (cv_set1 k.1 a).2.2.2.1
        refine wp_mono (cdoom_spec hi' hc1) (fun r M2 q => ⟨q.1, cqf_S q.2 (CSt_upd k hc1 (CHist_congr k.2.1 (fun i hi => ?_)) (fun i hi => ?_))⟩)
        · rw [mup_n (by unfold sI; omega)]
        · rw [mup_n (by unfold sI; omega)]
      · have e2 := (rv_n h.1).2.2.2.1
        unfold d_X9_setHeat
        simp (disch := first | omega | (unfold sm; omega)) only [wq_bd, wq_some, wq_bnd, wq_ite, bnd_e, bd_some, lit_, neg_I, I_lt, I_le, I_eq, I_add, I_sub, I_mul, I_clamp, chk_I, wchk_I, I_succ, Int.toNat_natCast, Int.reduceToNat, b01, b01I, bd_ite, if_true, if_false, ite_self, reduceIte, Int.reduceLE, Int.reduceLT, Int.reduceAdd, Int.reduceSub, Int.reduceNeg, Nat.reduceEqDiff, Nat.reduceAdd, rin_I, e2]
        rw [if_neg (fun h => h c), if_neg (fun e => c2 e.symm)]
        refine rpush hA h (fun r M1 k k0 => ?_)
        have hv1 := rv_set k.1 (i := 3) (by decide) (by decide) a
        have hk : RSt (mup M1 144 3 (I a)) ((setS S 3 a, W), pushH l (S, W), o, T) := by
          refine RSt_upd k (by rw [mup_s]; exact hv1) (RHist_congr k.2.1 ?_ ?_) (fun j hj => ?_) ?_ ?_ <;> rw [mup_n (by decide)]
        refine wp_mono (rdoom_spec hi' hk.1 hk.2.2.2.2) (fun r M2 q => ⟨q.1, rqf_S q.2.2 q.2.1 hk⟩)
  · refine ⟨I (-2), ((S, W), l, o, T), hA, fun M h => ?_, fun M h => ?_⟩
    · unfold d_X8_setHeat
      simp (disch := first | omega | (unfold sm; omega)) only [wq_bd, wq_some, wq_bnd, wq_ite, bnd_e, bd_some, lit_, neg_I, I_lt, I_le, I_eq, I_add, I_sub, I_mul, I_clamp, chk_I, wchk_I, I_succ, Int.toNat_natCast, Int.reduceToNat, b01, b01I, bd_ite, if_true, if_false, ite_self, reduceIte, Int.reduceLE, Int.reduceLT, Int.reduceAdd, Int.reduceSub, Int.reduceNeg, Nat.reduceEqDiff, Nat.reduceAdd, within_I]
      rw [if_pos (fun h => c h)]
      exact ⟨trivial, h⟩
    · unfold d_X9_setHeat
      simp (disch := first | omega | (unfold sm; omega)) only [wq_bd, wq_some, wq_bnd, wq_ite, bnd_e, bd_some, lit_, neg_I, I_lt, I_le, I_eq, I_add, I_sub, I_mul, I_clamp, chk_I, wchk_I, I_succ, Int.toNat_natCast, Int.reduceToNat, b01, b01I, bd_ite, if_true, if_false, ite_self, reduceIte, Int.reduceLE, Int.reduceLT, Int.reduceAdd, Int.reduceSub, Int.reduceNeg, Nat.reduceEqDiff, Nat.reduceAdd, rin_I]
      rw [if_pos (fun h => c h)]
      exact ⟨trivial, h⟩
theorem b_fall (p : Int32) : Both (d_X8_fall p) (d_X9_fall p) := by
  obtain ⟨a, ha, rfl⟩ := of_I p
  intro A hA
  obtain ⟨⟨S, W⟩, l, o, T⟩ := A
  have hi : SInv (S, W) := hA.1
  obtain ⟨h0, h1, h2, h3, h4, h5, hl⟩ := si_n hi
  by_cases c : 1 ≤ a ∧ a ≤ 3000
  · by_cases c2 : S 1 = 0
    · refine ⟨I (-5), ((S, W), l, o, T), hA, fun M h => ?_, fun M h => ?_⟩
      · have e2 := (cv_n h.1).2.1
        unfold d_X8_fall
        simp (disch := first | omega | (unfold sm; omega)) only [wq_bd, wq_some, wq_bnd, wq_ite, bnd_e, bd_some, lit_, neg_I, I_lt, I_le, I_eq, I_add, I_sub, I_mul, I_clamp, chk_I, wchk_I, I_succ, Int.toNat_natCast, Int.reduceToNat, b01, b01I, bd_ite, if_true, if_false, ite_self, reduceIte, Int.reduceLE, Int.reduceLT, Int.reduceAdd, Int.reduceSub, Int.reduceNeg, Nat.reduceEqDiff, Nat.reduceAdd, within_I, e2]
        rw [if_neg (fun h => h c), if_pos c2]
        exact ⟨trivial, h⟩
      · have e2 := (rv_n h.1).2.1
        unfold d_X9_fall
        simp (disch := first | omega | (unfold sm; omega)) only [wq_bd, wq_some, wq_bnd, wq_ite, bnd_e, bd_some, lit_, neg_I, I_lt, I_le, I_eq, I_add, I_sub, I_mul, I_clamp, chk_I, wchk_I, I_succ, Int.toNat_natCast, Int.reduceToNat, b01, b01I, bd_ite, if_true, if_false, ite_self, reduceIte, Int.reduceLE, Int.reduceLT, Int.reduceAdd, Int.reduceSub, Int.reduceNeg, Nat.reduceEqDiff, Nat.reduceAdd, rin_I, e2]
        rw [if_neg (fun h => h c), if_pos c2]
        exact ⟨trivial, h⟩
    · have hi' : SInv (setS S 1 (max 0 (S 1 - a)), W) := by
        refine SI_set hi (by omega) _ ?_ ?_ ?_ <;> simp only [setS, if_true, Nat.reduceEqDiff, if_false] <;> omega
      refine ⟨I (doomS (setS S 1 (max 0 (S 1 - a)))), ((setS S 1 (max 0 (S 1 - a)), W), pushH l (S, W), o, T), AInv_push hA hi', fun M h => ?_, fun M h => ?_⟩
      · have e2 := (cv_n h.1).2.1
        unfold d_X8_fall
        simp (disch := first | omega | (unfold sm; omega)) only [wq_bd, wq_some, wq_bnd, wq_ite, bnd_e, bd_some, lit_, neg_I, I_lt, I_le, I_eq, I_add, I_sub, I_mul, I_clamp, chk_I, wchk_I, I_succ, Int.toNat_natCast, Int.reduceToNat, b01, b01I, bd_ite, if_true, if_false, ite_self, reduceIte, Int.reduceLE, Int.reduceLT, Int.reduceAdd, Int.reduceSub, Int.reduceNeg, Nat.reduceEqDiff, Nat.reduceAdd, within_I, e2]
        rw [if_neg (fun h => h c), if_neg c2]
        refine cpush hA h (fun r M1 k => ?_)
        have e1 := (cv_n k.1).2.1
        have hc1 := (cv_set1 k.1 (max 0 (S 1 - a))).2.1
        simp (disch := first | omega | (unfold sm; omega)) only [wq_bd, wq_some, wq_bnd, wq_ite, bnd_e, bd_some, lit_, neg_I, I_lt, I_le, I_eq, I_add, I_sub, I_mul, I_clamp, chk_I, wchk_I, I_succ, Int.toNat_natCast, Int.reduceToNat, b01, b01I, bd_ite, if_true, if_false, ite_self, reduceIte, Int.reduceLE, Int.reduceLT, Int.reduceAdd, Int.reduceSub, Int.reduceNeg, Nat.reduceEqDiff, Nat.reduceAdd, e1, imax_I]
        refine wp_mono (cdoom_spec hi' hc1) (fun r M2 q => ⟨q.1, cqf_S q.2 (CSt_upd k hc1 (CHist_congr k.2.1 (fun i hi => ?_)) (fun i hi => ?_))⟩)
        · rw [mup_n (by unfold sI; omega)]
        · rw [mup_n (by unfold sI; omega)]
      · have e2 := (rv_n h.1).2.1
        unfold d_X9_fall
        simp (disch := first | omega | (unfold sm; omega)) only [wq_bd, wq_some, wq_bnd, wq_ite, bnd_e, bd_some, lit_, neg_I, I_lt, I_le, I_eq, I_add, I_sub, I_mul, I_clamp, chk_I, wchk_I, I_succ, Int.toNat_natCast, Int.reduceToNat, b01, b01I, bd_ite, if_true, if_false, ite_self, reduceIte, Int.reduceLE, Int.reduceLT, Int.reduceAdd, Int.reduceSub, Int.reduceNeg, Nat.reduceEqDiff, Nat.reduceAdd, rin_I, e2]
        rw [if_neg (fun h => h c), if_neg c2]
        refine rpush hA h (fun r M1 k k0 => ?_)
        have e1 := (rv_n k.1).2.1
        have hv1 := rv_set k.1 (i := 1) (by decide) (by decide) (max 0 (S 1 - a))
        have hk : RSt (mup M1 144 1 (I (max 0 (S 1 - a)))) ((setS S 1 (max 0 (S 1 - a)), W), pushH l (S, W), o, T) := by
          refine RSt_upd k (by rw [mup_s]; exact hv1) (RHist_congr k.2.1 ?_ ?_) (fun j hj => ?_) ?_ ?_ <;> rw [mup_n (by decide)]
        have fin := wp_mono (rdoom_spec hi' hk.1 hk.2.2.2.2) (fun r M2 q => (⟨q.1, rqf_S q.2.2 q.2.1 hk⟩ : r = I (doomS (setS S 1 (max 0 (S 1 - a)))) ∧ RSt M2 ((setS S 1 (max 0 (S 1 - a)), W), pushH l (S, W), o, T)))
        simp (disch := first | omega | (unfold sm; omega)) only [wq_bd, wq_some, wq_bnd, wq_ite, bnd_e, bd_some, lit_, neg_I, I_lt, I_le, I_eq, I_add, I_sub, I_mul, I_clamp, chk_I, wchk_I, I_succ, Int.toNat_natCast, Int.reduceToNat, b01, b01I, bd_ite, if_true, if_false, ite_self, reduceIte, Int.reduceLE, Int.reduceLT, Int.reduceAdd, Int.reduceSub, Int.reduceNeg, Nat.reduceEqDiff, Nat.reduceAdd, e1, d_X9_fall_B53]
        by_cases c3 : 0 ≤ S 1 - a
        · rw [if_pos c3]
          rw [show max 0 (S 1 - a) = S 1 - a by omega] at fin ⊢
          exact fin
        · rw [if_neg c3]
          rw [show max 0 (S 1 - a) = 0 by omega] at fin ⊢
          exact fin
  · refine ⟨I (-2), ((S, W), l, o, T), hA, fun M h => ?_, fun M h => ?_⟩
    · unfold d_X8_fall
      simp (disch := first | omega | (unfold sm; omega)) only [wq_bd, wq_some, wq_bnd, wq_ite, bnd_e, bd_some, lit_, neg_I, I_lt, I_le, I_eq, I_add, I_sub, I_mul, I_clamp, chk_I, wchk_I, I_succ, Int.toNat_natCast, Int.reduceToNat, b01, b01I, bd_ite, if_true, if_false, ite_self, reduceIte, Int.reduceLE, Int.reduceLT, Int.reduceAdd, Int.reduceSub, Int.reduceNeg, Nat.reduceEqDiff, Nat.reduceAdd, within_I]
      rw [if_pos (fun h => c h)]
      exact ⟨trivial, h⟩
    · unfold d_X9_fall
      simp (disch := first | omega | (unfold sm; omega)) only [wq_bd, wq_some, wq_bnd, wq_ite, bnd_e, bd_some, lit_, neg_I, I_lt, I_le, I_eq, I_add, I_sub, I_mul, I_clamp, chk_I, wchk_I, I_succ, Int.toNat_natCast, Int.reduceToNat, b01, b01I, bd_ite, if_true, if_false, ite_self, reduceIte, Int.reduceLE, Int.reduceLT, Int.reduceAdd, Int.reduceSub, Int.reduceNeg, Nat.reduceEqDiff, Nat.reduceAdd, rin_I]
      rw [if_pos (fun h => c h)]
      exact ⟨trivial, h⟩
