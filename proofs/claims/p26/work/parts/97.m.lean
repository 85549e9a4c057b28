/-! repair -/
def sickQ (S : Nat → Int) (mk : Nat → Bool) (b : Nat) : Bool := decide (S (45 + 5 * b) = 0 ∧ 0 < spS S (-1) false b ∧ mk b = false)
def sickS (S : Nat → Int) (mk : Nat → Bool) : Option Nat := (List.range' 0 (S 5).toNat).find? (sickQ S mk)
def mkC (M : Mem) (mk : Nat → Bool) : Prop := ∀ b, b < 60 → M 142 b = if mk b = true then 1 else 0
def mkR (M : Mem) (mk : Nat → Bool) : Prop := ∀ b, b < 60 → M 152 b = if mk b = true then 1 else 0
theorem sick_rows {S : Nat → Int} {mk : Nat → Bool} : (rl S (-1) false).find? (sickQ S mk) = sickS S mk := by
  unfold sickS rl
  rw [if_neg (by decide), List.append_nil, List.find?_filter]
  have e : ∀ (L : List Nat), (∀ b ∈ L, (b : Int) < S 5) → L.find? (fun a => decide (inP S (-1) a = true ∧ sickQ S mk a = true)) = L.find? (sickQ S mk) := by
    intro L
    induction L with
    | nil => intro _; rfl
    | cons b L ih =>
      intro h
      have hb := h b List.mem_cons_self
      rw [List.find?_cons, List.find?_cons, ih (fun y hy => h y (List.mem_cons_of_mem _ hy))]
      have : decide (inP S (-1) b = true ∧ sickQ S mk b = true) = sickQ S mk b := by
        cases hq : sickQ S mk b with
        | false => exact decide_eq_false (fun h => by cases h.2)
        | true =>
          have hq2 := of_decide_eq_true hq
          exact decide_eq_true ⟨decide_eq_true ⟨by omega, by omega⟩, rfl⟩
      rw [this]
  exact e (List.range' 0 (S 5).toNat) (fun b hb => by have := List.mem_range'_1.mp hb; omega)
theorem sick_f {S : Nat → Int} {mk : Nat → Bool} {b : Nat} (h : sickS S mk = some b) : (b : Int) < S 5 ∧ S (45 + 5 * b) = 0 ∧ mk b = false := by
  have h1 := List.mem_range'_1.mp (List.mem_of_find?_eq_some h)
  have h3 : (List.range' 0 (S 5).toNat).find? (sickQ S mk) = some b := h
  have h4 : sickQ S mk b = true := List.find?_some h3
  have h2 := of_decide_eq_true h4
  exact ⟨by omega, h2.1, h2.2.2⟩
theorem ftr_L {S : Nat → Int} {W : List Wi} (hi : SInv (S, W)) {mk : Nat → Bool} {M : Mem} (hc : cv 0 M (S, W)) (hE : crE 0 M S (rl S (-1) false)) (hm : mkC M mk) {kx : Mem → Ans} : ∀ (d n x : Nat), x + d = (rl S (-1) false).length → d < n → d_X8_firstToRepair_L6 kx n (I x) M = (match ((rl S (-1) false).drop x).find? (sickQ S mk) with | some b => some (I b, M) | none => kx M)
  | 0, n + 1, x, hx, hn => by
    have h6 := hE.1
    have hlen := (ok_plain hi).2.2.2.2.2.2.2.2
    rw [sd_X8_firstToRepair_L6]
    unfold d_X8_firstToRepair_L6_body
    simp (disch := first | omega | (unfold sm; omega)) only [wq_bd, wq_some, wq_bnd, wq_ite, bnd_e, bd_some, lit_, neg_I, I_lt, I_le, I_eq, I_add, I_sub, I_mul, I_clamp, chk_I, wchk_I, I_succ, Int.toNat_natCast, Int.reduceToNat, b01, b01I, bd_ite, if_true, if_false, ite_self, reduceIte, Int.reduceLE, Int.reduceLT, Int.reduceAdd, Int.reduceSub, Int.reduceNeg, Nat.reduceEqDiff, Nat.reduceAdd, h6]
    rw [if_pos (by omega), List.drop_eq_nil_of_le (by omega)]
    rfl
  | d + 1, n + 1, x, hx, hn => by
    have h6 := hE.1
    have hs := ok_plain hi
    have hlen := hs.2.2.2.2.2.2.2.2
    have h5 := (si_n hi).2.2.2.2.2.1
    have hget : (rl S (-1) false)[x]? = some (rl S (-1) false)[x] := List.getElem?_eq_getElem (by omega)
    have hmem : (rl S (-1) false)[x] ∈ rl S (-1) false := List.mem_of_getElem? hget
    have edrop : (rl S (-1) false).drop x = (rl S (-1) false)[x] :: (rl S (-1) false).drop (x + 1) := List.drop_eq_getElem_cons (by omega)
    have ih := ftr_L hi hc hE hm (kx := kx) d n (x + 1) (by omega) (by omega)
    obtain ⟨⟨r1, -⟩, r2, -⟩ := hE.2 x _ hget
    have hce := ((run_FI hs 80).2 _ hmem).1
    have h3 := spS_3 hs hmem
    have hb5 : (((rl S (-1) false)[x] : Nat) : Int) < S 5 := by
      rcases rl_mem.mp hmem with hh | hh
      · exact hh.1
      · exact absurd hh.1 (by decide)
    generalize (rl S (-1) false)[x] = b at *
    have enm : nmS S b = b := by unfold nmS; rw [if_neg (by omega)]
    rw [enm] at r1
    obtain ⟨k1, k2, k3, k4, -, -⟩ := si_b hi hb5
    have hmb := hm b (by omega)
    rw [sd_X8_firstToRepair_L6, edrop, List.find?_cons]
    unfold d_X8_firstToRepair_L6_body
    simp (disch := first | omega | (unfold sm; omega)) only [wq_bd, wq_some, wq_bnd, wq_ite, bnd_e, bd_some, lit_, neg_I, I_lt, I_le, I_eq, I_add, I_sub, I_mul, I_clamp, chk_I, wchk_I, I_succ, Int.toNat_natCast, Int.reduceToNat, b01, b01I, bd_ite, if_true, if_false, ite_self, reduceIte, Int.reduceLE, Int.reduceLT, Int.reduceAdd, Int.reduceSub, Int.reduceNeg, Nat.reduceEqDiff, Nat.reduceAdd, h6, r1, r2, stateOf_I hc hi hb5, d_X8_firstToRepair_B64, ih]
    rw [if_neg (by omega)]
    by_cases c : ((runS S (rl S (-1) false) 80).2.2 b).1 = 3
    · rw [if_pos c]
      rw [h3] at c
      by_cases c2 : S (45 + 5 * b) = 0
      · rw [if_pos c2]
        unfold d_X8_wasRepaired
        rw [show M 142 (I (b : Int)).toNatClampNeg = if mk b = true then 1 else 0 from by rw [I_clamp (by unfold sm; omega)]; exact hmb]
        simp (disch := first | omega | (unfold sm; omega)) only [wq_bd, wq_some, wq_bnd, wq_ite, bnd_e, bd_some, lit_, neg_I, I_lt, I_le, I_eq, I_add, I_sub, I_mul, I_clamp, chk_I, wchk_I, I_succ, Int.toNat_natCast, Int.reduceToNat, b01, b01I, bd_ite, if_true, if_false, ite_self, reduceIte, Int.reduceLE, Int.reduceLT, Int.reduceAdd, Int.reduceSub, Int.reduceNeg, Nat.reduceEqDiff, Nat.reduceAdd]
        rw [if_neg (by omega), if_neg (by omega)]
        cases hk : mk b with
        | false =>
          rw [show sickQ S mk b = true from decide_eq_true ⟨c2, c, hk⟩]
          rw [if_pos (show ¬ (false = true) by decide)]
        | true =>
          rw [show sickQ S mk b = false from decide_eq_false (fun h => by have := h.2.2; rw [hk] at this; cases this)]
          rw [if_neg (show ¬ ¬ (true = true) by decide), if_neg (by decide)]
          exact ih
      · rw [if_neg c2, show sickQ S mk b = false from decide_eq_false (fun h => c2 h.1)]
    · rw [if_neg c]
      rw [h3] at c
      rw [show sickQ S mk b = false from decide_eq_false (fun h => c h.2.1)]
  | _, 0, _, _, hn => absurd hn (by omega)
theorem ftr_spec {S : Nat → Int} {W : List Wi} (hi : SInv (S, W)) {mk : Nat → Bool} {M : Mem} (hc : cv 0 M (S, W)) (hm : mkC M mk) : wp (d_X8_firstToRepair M) (fun r M1 => r = I (oN (-1) (sickS S mk)) ∧ cqf M M1) := by
  unfold d_X8_firstToRepair
  rw [wq_bd]
  refine wp_mono (fte_spec hi hc) (fun r M1 q => ?_)
  have hm1 : mkC M1 mk := fun b hb => by rw [q.2 142 (by omega)]; exact hm b hb
  rw [show (0 : Int32) = I ((0 : Nat) : Int) from rfl, ftr_L hi (cqf_v q.2 hc) q.1 hm1 _ fuelN 0 (Nat.zero_add _) (by unfold fuelN; have := (ok_plain hi).2.2.2.2.2.2.2.2; omega), List.drop_zero, sick_rows]
  cases sickS S mk with
  | none => exact wp_some ⟨rfl, q.2⟩
  | some b => exact wp_some ⟨rfl, q.2⟩
theorem sck_L {S : Nat → Int} {W : List Wi} (hi : SInv (S, W)) {mk : Nat → Bool} {M : Mem} (hr : rv (M 144) (S, W)) (hsp : ∀ b, b ≤ 60 → M 149 b = I (spS S (-1) false b)) (hm : mkR M mk) {kx : Mem → Ans} : ∀ (d n x : Nat), (x : Int) + d = S 5 → d < n → d_X9_sick_L6 kx n (I x) M = (match (List.range' x d).find? (sickQ S mk) with | some b => some (I b, M) | none => kx M)
  | 0, n + 1, x, hx, hn => by
    have h5 := (si_n hi).2.2.2.2.2.1
    have e5 := (rv_n hr).2.2.2.2.2.1
    rw [sd_X9_sick_L6]
    unfold d_X9_sick_L6_body
    simp (disch := first | omega | (unfold sm; omega)) only [wq_bd, wq_some, wq_bnd, wq_ite, bnd_e, bd_some, lit_, neg_I, I_lt, I_le, I_eq, I_add, I_sub, I_mul, I_clamp, chk_I, wchk_I, I_succ, Int.toNat_natCast, Int.reduceToNat, b01, b01I, bd_ite, if_true, if_false, ite_self, reduceIte, Int.reduceLE, Int.reduceLT, Int.reduceAdd, Int.reduceSub, Int.reduceNeg, Nat.reduceEqDiff, Nat.reduceAdd, e5]
    rw [if_pos (by omega)]
    rfl
  | d + 1, n + 1, x, hx, hn => by
    have h5 := (si_n hi).2.2.2.2.2.1
    have e5 := (rv_n hr).2.2.2.2.2.1
    have hb5 : (x : Int) < S 5 := by omega
    obtain ⟨k1, k2, k3, k4, -, -⟩ := si_b hi hb5
    obtain ⟨q0, q1, q2, q3, q4⟩ := rof0 hr (b := x) (by omega)
    have hmb := hm x (by omega)
    have hs := hsp x (by omega)
    have hsb := spS_b (ok_plain hi) x
    have ih := sck_L hi hr hsp hm (kx := kx) d n (x + 1) (by omega) (by omega)
    rw [sd_X9_sick_L6, List.range'_succ, List.find?_cons]
    unfold d_X9_sick_L6_body
    simp (disch := first | omega | (unfold sm; omega)) only [wq_bd, wq_some, wq_bnd, wq_ite, bnd_e, bd_some, lit_, neg_I, I_lt, I_le, I_eq, I_add, I_sub, I_mul, I_clamp, chk_I, wchk_I, I_succ, Int.toNat_natCast, Int.reduceToNat, b01, b01I, bd_ite, if_true, if_false, ite_self, reduceIte, Int.reduceLE, Int.reduceLT, Int.reduceAdd, Int.reduceSub, Int.reduceNeg, Nat.reduceEqDiff, Nat.reduceAdd, e5, q3, hs, d_X9_sick_B45, ih]
    rw [if_neg (by omega)]
    by_cases c2 : S (45 + 5 * x) = 0
    · rw [if_pos c2]
      by_cases c : 0 < spS S (-1) false x
      · rw [if_neg (by omega), hmb]
        cases hk : mk x with
        | false =>
          rw [show sickQ S mk x = true from decide_eq_true ⟨c2, c, hk⟩]
          rw [if_pos (show (if false = true then (1 : Int32) else 0) = I 0 from rfl)]
        | true =>
          rw [show sickQ S mk x = false from decide_eq_false (fun h => by have := h.2.2; rw [hk] at this; cases this)]
          rw [if_pos rfl, if_neg (by decide)]
      · rw [if_pos (by omega), show sickQ S mk x = false from decide_eq_false (fun h => c h.2.1)]
    · rw [if_neg c2, show sickQ S mk x = false from decide_eq_false (fun h => c2 h.1)]
  | _, 0, _, _, hn => absurd hn (by omega)
theorem sck_spec {S : Nat → Int} {W : List Wi} (hi : SInv (S, W)) {mk : Nat → Bool} {M : Mem} (hr : rv (M 144) (S, W)) (hsc : scR M) (hm : mkR M mk) : wp (d_X9_sick M) (fun r M1 => r = I (oN (-5) (sickS S mk)) ∧ scR M1 ∧ rqf M M1) := by
  have h5 := (si_n hi).2.2.2.2.2.1
  unfold d_X9_sick
  rw [wq_bd]
  refine wp_mono (fcst_spec hi (ok_plain hi) hr (RSc_out (by omega) hsc.2.1 hsc.2.2 hsc.1)) (fun r M1 q => ?_)
  obtain ⟨z1, z2⟩ := q
  have hq := rqf_f z2
  have hsc1 : scR M1 := scR_congr hsc (fun j h1 h2 => z2.2 j (by omega))
  rw [show (0 : Int32) = I ((0 : Nat) : Int) from rfl, sck_L hi (rqf_v hq hr) (fun b hb => (z1.2 b hb).2.1) (fun b hb => by rw [hq.1 152 (by decide) (by decide)]; exact hm b hb) (S 5).toNat fuelN 0 (by omega) (by unfold fuelN; omega)]
  show wp (match sickS S mk with | some b => some (I b, M1) | none => some (-5, M1)) _
  cases sickS S mk with
  | none => exact wp_some ⟨rfl, hsc1, hq⟩
  | some b => exact wp_some ⟨rfl, hsc1, hq⟩
/-- a booking is moved later, or cancelled -/
def ltS (S : Nat → Int) (b : Nat) : Int := firS S (some b) (S (42 + 5 * b)) (rcN S b) (S (44 + 5 * b) + 1) (S 0 + 60)
def stpS (S : Nat → Int) (b : Nat) : Nat → Int := if ltS S b = -5 then setS S (45 + 5 * b) 4 else setS S (44 + 5 * b) (ltS S b)
def ganS (S : Nat → Int) (b : Nat) : Int := if ltS S b = -5 then 0 else 1
def mrk (mk : Nat → Bool) (b : Nat) : Nat → Bool := fun x => if x = b then true else mk x
theorem stp_SI {S : Nat → Int} {W : List Wi} (hi : SInv (S, W)) {b : Nat} (hb : (b : Int) < S 5) (h0 : S (45 + 5 * b) = 0) : SInv (stpS S b, W) := by
  unfold stpS
  by_cases c : ltS S b = -5
  · rw [if_pos c]; exact SI_cn hi hb
  · rw [if_neg c]
    rcases firS_b (S := S) (self := some b) (ro := S (42 + 5 * b)) (rc := rcN S b) (fr := S (44 + 5 * b) + 1) (to := S 0 + 60) with h | h
    · exact absurd h c
    · exact SI_mv hi hb h0 ⟨h.1, h.2.1⟩
theorem mlc_spec {S : Nat → Int} {W : List Wi} (hi : SInv (S, W)) {b : Nat} (hb : (b : Int) < S 5) (h0 : S (45 + 5 * b) = 0) {l : List St} {o : Option St} {T : List Int32} {mk : Nat → Bool} {M : Mem} (h : CSt M ((S, W), l, o, T)) (hm : mkC M mk) : wp (d_X8_moveLaterOrCancel (I b) M) (fun r M1 => r = I (ganS S b) ∧ CSt M1 ((stpS S b, W), l, o, T) ∧ mkC M1 (mrk mk b)) := by
  obtain ⟨g0, g1, g2, g3, g4, g5, gl⟩ := si_n hi
  obtain ⟨k1, k2, k3, k4, k5, -⟩ := si_b hi hb
  have e43 := rcN_e hi hb
  have hca := ca_b hi hb (by omega)
  obtain ⟨n0, n1, n2, n3, n4⟩ := cv_b h.1 (b := b) (by omega)
  rw [e43] at n1
  unfold d_X8_moveLaterOrCancel
  simp only [lit_, neg_I]
  refine gd_t (has0_I h.1 hi (by omega)) ⟨by omega, hb⟩ ?_
  rw [show vp_nar .boolean (I 1) = 1 from by rw [show (I 1 : Int32) = 1 from rfl]; rfl]
  rw [wchk_I (by omega) (by omega) (by omega), wq_bnd, I_clamp (by unfold sm; omega), Int.toNat_natCast]
  have hM3 : ∃ M3, M3 = mup M 142 b 1 := ⟨_, rfl⟩
  obtain ⟨M3, hM3⟩ := hM3
  rw [← hM3]
  have f3 : ∀ i, i ≠ 142 → M3 i = M i := fun i hi => by rw [hM3, mup_n hi]
  have h3 : CSt M3 ((S, W), l, o, T) := CSt_fr h (fun i hi => f3 i (by omega))
  have hm3 : mkC M3 (mrk mk b) := fun x hx => by
    rw [hM3, mup_s]
    unfold mrk
    by_cases e : x = b
    · rw [e, upd_s, if_pos rfl, if_pos rfl]
    · rw [upd_n e, if_neg e]; exact hm x hx
  rw [f3 _ (by decide), f3 _ (by decide), f3 _ (by decide), n0, n1, n2, I_add, I_add, wchk_I (by omega) (by omega) (by omega), wchk_I (by omega) (by omega) (by omega), wchk_I (by omega) (by omega) (by omega), wchk_I (by omega) (by omega) (by omega), wq_bd]
  refine wp_mono (ff_spec hi hca (ro := S (42 + 5 * b)) (by omega) (fr := S (44 + 5 * b) + 1) (to := S (44 + 5 * b) + 60) (by omega) (by omega) h3.1) (fun x M4 q => ?_)
  have elt : firS S (some b) (S (42 + 5 * b)) (rcN S b) (S (44 + 5 * b) + 1) (S (44 + 5 * b) + 60) = ltS S b := by
    have := k5 h0
    unfold ltS firS
    rw [show min (S (44 + 5 * b) + 60) (S 0 + 60) = min (S 0 + 60) (S 0 + 60) by omega]
  have h4 := cqf_S q.2 h3
  have hm4 : mkC M4 (mrk mk b) := fun x hx => by rw [q.2 142 (by omega)]; exact hm3 x hx
  have hltb := firS_b (S := S) (self := some b) (ro := S (42 + 5 * b)) (rc := rcN S b) (fr := S (44 + 5 * b) + 1) (to := S 0 + 60)
  rw [q.1, elt]
  unfold ganS stpS
  have hltb' : ltS S b = -5 ∨ (S 0 < ltS S b ∧ ltS S b ≤ S 0 + 60 ∧ S (44 + 5 * b) + 1 ≤ ltS S b) := hltb
  by_cases c : ltS S b = -5
  · rw [if_pos c, if_pos c]
    refine wif_t c ?_
    rw [wchk_I (by omega) (by omega) (by omega), wq_bnd, wq_some]
    refine ⟨rfl, CSt_upd h4 (cv_setb h4.1 (b := b) (by omega) 4).2.2.2.1 (CHist_congr h4.2.1 (fun i hi => ?_)) (fun i hi => ?_), fun x hx => ?_⟩
    · rw [mup_n (by unfold sI; omega)]
    · rw [mup_n (by unfold sI; omega)]
    · rw [mup_n (by unfold sI; omega)]; exact hm4 x hx
  · rw [if_neg c, if_neg c]
    refine wif_f (by omega) (by omega) c ?_
    rw [wchk_I (by omega) (by omega) (by omega), wq_bnd, wq_some]
    refine ⟨rfl, CSt_upd h4 (cv_setb h4.1 (b := b) (by omega) (ltS S b)).2.2.1 (CHist_congr h4.2.1 (fun i hi => ?_)) (fun i hi => ?_), fun x hx => ?_⟩
    · rw [mup_n (by unfold sI; omega)]
    · rw [mup_n (by unfold sI; omega)]
    · rw [mup_n (by unfold sI; omega)]; exact hm4 x hx
/-! repair: the rounds -/
def repS : Nat → (Nat → Int) → (Nat → Bool) → Option Nat → Int → (Nat → Int) × Int
  | 0, S, _, _, a => (S, a)
  | _ + 1, S, _, none, a => (S, a)
  | d + 1, S, mq, some b, a => repS d (stpS S b) (mrk mq b) (sickS (stpS S b) (mrk mq b)) (a + ganS S b)
theorem repS_n (d : Nat) (S : Nat → Int) (mq : Nat → Bool) (a : Int) : repS d S mq none a = (S, a) := by
  cases d <;> rfl
def um (mq : Nat → Bool) : Nat := (List.range' 0 60).countP (fun b => !mq b)
theorem um_c (mq : Nat → Bool) (b : Nat) : ∀ L : List Nat, L.Nodup → mq b = false → L.countP (fun x => !mq x) = L.countP (fun x => !mrk mq b x) + if b ∈ L then 1 else 0
  | [], _, _ => rfl
  | x :: L, hn, hb => by
    have hn2 := List.nodup_cons.mp hn
    have ih := um_c mq b L hn2.2 hb
    rw [List.countP_cons, List.countP_cons, ih]
    by_cases e : b = x
    · subst e
      have e1 : mrk mq b b = true := if_pos rfl
      rw [e1, hb, if_neg hn2.1, if_pos List.mem_cons_self]
      simp
    · have e1 : mrk mq b x = mq x := if_neg (fun h => e h.symm)
      rw [e1]
      by_cases m : b ∈ L
      · rw [if_pos m, if_pos (List.mem_cons_of_mem _ m)]; omega
      · rw [if_neg m, if_neg (c := b ∈ x :: L) (fun hh => by
          rcases List.mem_cons.mp hh with h | h
          · exact e h
          · exact m h)]
        omega
theorem um_s {mq : Nat → Bool} {b : Nat} (hb : b < 60) (h : mq b = false) : um mq = um (mrk mq b) + 1 := by
  unfold um
  rw [um_c mq b _ List.nodup_range' h, if_pos (List.mem_range'_1.mpr ⟨by omega, by omega⟩)]
theorem um_0 {mq : Nat → Bool} {b : Nat} (hb : b < 60) (h : um mq = 0) : mq b = true := by
  unfold um at h
  have := List.countP_eq_zero.mp h b (List.mem_range'_1.mpr ⟨by omega, by omega⟩)
  cases hk : mq b with
  | true => rfl
  | false => rw [hk] at this; exact absurd rfl this
theorem rep_SI : ∀ (d : Nat) (S : Nat → Int) (W : List Wi) (mq : Nat → Bool) (a : Int), SInv (S, W) → SInv ((repS d S mq (sickS S mq) a).1, W)
  | 0, S, W, mq, a, hi => hi
  | d + 1, S, W, mq, a, hi => by
    cases hs : sickS S mq with
    | none => rw [repS_n]; exact hi
    | some b =>
      obtain ⟨h1, h2, h3⟩ := sick_f hs
      exact rep_SI d _ W _ _ (stp_SI hi h1 h2)
theorem crep_L {W : List Wi} {l : List St} {o : Option St} {T : List Int32} : ∀ (d n : Nat) (S : Nat → Int) (mq : Nat → Bool) (a : Int) (M : Mem), CSt M ((S, W), l, o, T) → mkC M mq → SInv (S, W) → um mq ≤ d → d ≤ 60 → d < n → wp (d_X8_repair_L49 (fun v14 M15 => some (v14, M15)) n (I (oN (-1) (sickS S mq))) (I a) (I (60 - d : Int)) M) (fun r M1 => r = I (repS d S mq (sickS S mq) a).2 ∧ CSt M1 (((repS d S mq (sickS S mq) a).1, W), l, o, T))
  | 0, n + 1, S, mq, a, M, h, hm, hi, hu, hd, hn => by
    rw [sd_X8_repair_L49]
    unfold d_X8_repair_L49_body
    rw [if_pos (by rw [show (60 : Int32) = I 60 from rfl, I_le (by unfold sm; omega) (by unfold sm; omega)]; omega), wq_some]
    exact ⟨rfl, h⟩
  | d + 1, n + 1, S, mq, a, M, h, hm, hi, hu, hd, hn => by
    rw [sd_X8_repair_L49]
    unfold d_X8_repair_L49_body
    simp only [lit_, neg_I]
    rw [if_neg (by rw [I_le (by unfold sm; omega) (by unfold sm; omega)]; omega)]
    have h5 := (si_n hi).2.2.2.2.2.1
    cases hs : sickS S mq with
    | none =>
      rw [repS_n]
      exact wif_t rfl (wp_some ⟨rfl, h⟩)
    | some b =>
      obtain ⟨h1, h2, h3⟩ := sick_f hs
      have hus := um_s (b := b) (by omega) h3
      have eo : oN (-1) (some b) = (b : Int) := rfl
      rw [eo]
      refine wif_f (by omega) (by omega) (by omega) ?_
      rw [wq_bd]
      refine wp_mono (mlc_spec hi h1 h2 h hm) (fun x M1 q => ?_)
      obtain ⟨q1, q2, q3⟩ := q
      have hi2 := stp_SI hi h1 h2
      have fin : ∀ g, g = a + ganS S b → wp (d_X8_repair_B71 (fun v14 M15 => some (v14, M15)) (d_X8_repair_L49 (fun v14 M15 => some (v14, M15)) n) (I g) (I (60 - ((d + 1 : Nat) : Int))) M1) (fun r M1 => r = I (repS (d + 1) S mq (some b) a).2 ∧ CSt M1 (((repS (d + 1) S mq (some b) a).1, W), l, o, T)) := by
        intro g hg
        subst hg
        unfold d_X8_repair_B71
        rw [wq_bd]
        refine wp_mono (ftr_spec hi2 q2.1 q3) (fun y M2 z => ?_)
        have hC2 := cqf_S z.2 q2
        have hm2 : mkC M2 (mrk mq b) := fun x hx => by rw [z.2 142 (by omega)]; exact q3 x hx
        rw [z.1, wq_bnd, show (1 : Int32) = I 1 from rfl, I_add, show (60 - ((d + 1 : Nat) : Int) + 1) = 60 - (d : Int) by omega]
        exact crep_L d n _ _ _ M2 hC2 hm2 hi2 (by omega) (by omega) (by omega)
      rw [q1]
      unfold ganS at fin ⊢
      by_cases c : ltS S b = -5
      · rw [if_pos c] at fin ⊢
        rw [if_pos rfl]
        exact fin a (by omega)
      · rw [if_neg c] at fin ⊢
        rw [if_neg (by decide), wq_bnd, I_add]
        exact fin (a + 1) rfl
  | _, 0, _, _, _, _, _, _, _, _, _, hn => absurd hn (by omega)
theorem rrep_L {W : List Wi} {l : List St} {o : Option St} {T : List Int32} : ∀ (d n : Nat) (S : Nat → Int) (mq : Nat → Bool) (a : Int) (M : Mem), RSt M ((S, W), l, o, T) → mkR M mq → SInv (S, W) → um mq ≤ d → d < n → wp (d_X9_repair_L41 (fun v14 M15 => some (v14, M15)) n (I (oN (-5) (sickS S mq))) (I a) M) (fun r M1 => r = I (repS d S mq (sickS S mq) a).2 ∧ RSt M1 (((repS d S mq (sickS S mq) a).1, W), l, o, T))
  | d, n + 1, S, mq, a, M, h, hm, hi, hu, hn => by
    have h5 := (si_n hi).2.2.2.2.2.1
    have g0 := (si_n hi).1
    rw [sd_X9_repair_L41]
    unfold d_X9_repair_L41_body
    simp only [lit_, neg_I]
    cases hs : sickS S mq with
    | none =>
      rw [repS_n]
      exact wif_t rfl (wp_some ⟨rfl, h⟩)
    | some b =>
      obtain ⟨h1, h2, h3⟩ := sick_f hs
      have hus := um_s (b := b) (by omega) h3
      obtain ⟨d, rfl⟩ : ∃ d' : Nat, d = d' + 1 := ⟨d - 1, by omega⟩
      obtain ⟨k1, k2, k3, k4, k5, -⟩ := si_b hi h1
      have hca := ca_b hi h1 (by omega)
      have e43 := rcN_e hi h1
      have eo : oN (-5) (some b) = (b : Int) := rfl
      rw [eo]
      refine wif_f (by omega) (by omega) (by omega) ?_
      rw [wq_bd]
      refine wp_mono (bases_spec hi h.1 h.2.2.2.2 (out := (b : Int)) (Or.inr ⟨b, rfl, by omega⟩)) (fun x M1 q => ?_)
      obtain ⟨z1, z2, z3⟩ := q
      have hr1 := rqf_v z3 h.1
      obtain ⟨q0, q1, q2, q3, q4⟩ := rof0 hr1 (b := b) (by omega)
      rw [e43] at q1
      have e0 := (rv_n hr1).1
      rw [q0, bd_some, q1, bd_some, q2, bd_some, wchk_I (by decide) (by decide) (by decide), I_clamp (by unfold sm; decide), show (0 : Int).toNat = 0 from rfl, e0, I_add, I_add, wq_bd]
      refine wp_mono (first_spec hi hca (ro := S (42 + 5 * b)) (by omega) (fr := S (44 + 5 * b) + 1) (to := S 0 + 60) (by omega) (by omega) hr1 z2 z1) (fun x M2 u => ?_)
      obtain ⟨u1, u2, u3⟩ := u
      have hR2 : RSt M2 ((S, W), l, o, T) := rqf_S (rqf_t z3 u3) u2 h
      have hm2 : mkR M2 mq := fun x hx => by rw [(rqf_t z3 u3).1 152 (by decide) (by decide)]; exact hm x hx
      have hi2 := stp_SI hi h1 h2
      have elt : firS S (some b) (S (42 + 5 * b)) (rcN S b) (S (44 + 5 * b) + 1) (S 0 + 60) = ltS S b := rfl
      have hltb : ltS S b = -5 ∨ (S 0 < ltS S b ∧ ltS S b ≤ S 0 + 60 ∧ S (44 + 5 * b) + 1 ≤ ltS S b) := firS_b
      rw [u1, elt]
      have fin : ∀ g M3, g = a + ganS S b → RSt M3 ((stpS S b, W), l, o, T) → mkR M3 mq → wp (d_X9_repair_B113 (fun v14 M15 => some (v14, M15)) (d_X9_repair_L41 (fun v14 M15 => some (v14, M15)) n) (I b) (I g) M3) (fun r M1 => r = I (repS (d + 1) S mq (some b) a).2 ∧ RSt M1 (((repS (d + 1) S mq (some b) a).1, W), l, o, T)) := by
        intro g M3 hg hR3 hm3
        subst hg
        unfold d_X9_repair_B113
        rw [show vp_nar .boolean (1 : Int32) = 1 from rfl, wchk_I (by omega) (by omega) (by omega), wq_bnd, I_clamp (by unfold sm; omega), Int.toNat_natCast, wq_bd]
        have hR4 : RSt (mup M3 152 b 1) ((stpS S b, W), l, o, T) := RSt_fr hR3 (fun i hi => by rw [mup_n (by omega)]) (fun j hj => by rw [mup_n (by decide)])
        have hm4 : mkR (mup M3 152 b 1) (mrk mq b) := fun x hx => by
          rw [mup_s]
          unfold mrk
          by_cases e : x = b
          · rw [e, upd_s, if_pos rfl, if_pos rfl]
          · rw [upd_n e, if_neg e]; exact hm3 x hx
        refine wp_mono (sck_spec hi2 hR4.1 hR4.2.2.2.2 hm4) (fun y M5 z => ?_)
        obtain ⟨y1, y2, y3⟩ := z
        rw [y1]
        exact rrep_L d n _ _ _ M5 (rqf_S y3 y2 hR4) (fun x hx => by rw [y3.1 152 (by decide) (by decide)]; exact hm4 x hx) hi2 (by omega) (by omega)
      unfold ganS stpS at fin
      by_cases c : ltS S b = -5
      · refine wif_t c ?_
        rw [if_pos c, if_pos c] at fin
        rw [(puts_e (b := b) (by omega) _).2.2.2.1, bd_some]
        refine fin a _ (by omega) ?_ (fun x hx => by rw [mup_n (by decide)]; exact hm2 x hx)
        have hv := rv_set hR2.1 (i := 45 + 5 * b) (by omega) (by omega) 4
        refine RSt_upd hR2 (by rw [mup_s]; exact hv) (RHist_congr hR2.2.1 ?_ ?_) (fun j hj => ?_) ?_ ?_ <;> rw [mup_n (by decide)]
      · refine wif_f (by omega) (by omega) c ?_
        rw [if_neg c, if_neg c] at fin
        rw [(puts_e (b := b) (by omega) _).2.2.1, bd_some, wq_bnd, I_add]
        refine fin (a + 1) _ rfl ?_ (fun x hx => by rw [mup_n (by decide)]; exact hm2 x hx)
        have hv := rv_set hR2.1 (i := 44 + 5 * b) (by omega) (by omega) (ltS S b)
        refine RSt_upd hR2 (by rw [mup_s]; exact hv) (RHist_congr hR2.2.1 ?_ ?_) (fun j hj => ?_) ?_ ?_ <;> rw [mup_n (by decide)]
  | _, 0, _, _, _, _, _, _, _, _, hn => absurd hn (by omega)
theorem clr_L {kx : Mem → Ans} {Q : Int32 → Mem → Prop} : ∀ (d n x : Nat) (M : Mem), x + d = 60 → d < n → (∀ b, b < x → M 142 b = 0) → (∀ M1, (∀ b, b < 60 → M1 142 b = 0) → (∀ i, i ≠ 142 → M1 i = M i) → wp (kx M1) Q) → wp (d_X8_repair_L2 kx n (I x) M) Q
  | 0, n + 1, x, M, hx, hn, h, k => by
    rw [sd_X8_repair_L2]
    unfold d_X8_repair_L2_body
    simp (disch := first | omega | (unfold sm; omega)) only [wq_bd, wq_some, wq_bnd, wq_ite, bnd_e, bd_some, lit_, neg_I, I_lt, I_le, I_eq, I_add, I_sub, I_mul, I_clamp, chk_I, wchk_I, I_succ, Int.toNat_natCast, Int.reduceToNat, b01, b01I, bd_ite, if_true, if_false, ite_self, reduceIte, Int.reduceLE, Int.reduceLT, Int.reduceAdd, Int.reduceSub, Int.reduceNeg, Nat.reduceEqDiff, Nat.reduceAdd]
    rw [if_pos (by omega)]
    have : x = 60 := by omega
    subst this
    exact k M h (fun _ _ => rfl)
  | d + 1, n + 1, x, M, hx, hn, h, k => by
    rw [sd_X8_repair_L2]
    unfold d_X8_repair_L2_body
    rw [show vp_nar .boolean (0 : Int32) = 0 from rfl]
    simp (disch := first | omega | (unfold sm; omega)) only [wq_bd, wq_some, wq_bnd, wq_ite, bnd_e, bd_some, lit_, neg_I, I_lt, I_le, I_eq, I_add, I_sub, I_mul, I_clamp, chk_I, wchk_I, I_succ, Int.toNat_natCast, Int.reduceToNat, b01, b01I, bd_ite, if_true, if_false, ite_self, reduceIte, Int.reduceLE, Int.reduceLT, Int.reduceAdd, Int.reduceSub, Int.reduceNeg, Nat.reduceEqDiff, Nat.reduceAdd]
    rw [if_neg (by omega)]
    refine clr_L d n (x + 1) _ (by omega) (by omega) (fun b hb => ?_) (fun M1 z1 z2 => k M1 z1 (fun i hi => by rw [z2 i hi, mup_n hi]))
    rw [mup_s]
    by_cases e : b = x
    · subst e; rw [upd_s]; rfl
    · rw [upd_n e]; exact h b (by omega)
  | _, 0, _, _, _, hn, _, _ => absurd hn (by omega)
theorem rclr_L {kx : Mem → Ans} {Q : Int32 → Mem → Prop} : ∀ (d n x : Nat) (M : Mem), x + d = 60 → d < n → (∀ b, b < x → M 152 b = 0) → (∀ M1, (∀ b, b < 60 → M1 152 b = 0) → (∀ i, i ≠ 152 → M1 i = M i) → wp (kx M1) Q) → wp (d_X9_repair_L2 kx n (I x) M) Q
  | 0, n + 1, x, M, hx, hn, h, k => by
    rw [sd_X9_repair_L2]
    unfold d_X9_repair_L2_body
    simp (disch := first | omega | (unfold sm; omega)) only [wq_bd, wq_some, wq_bnd, wq_ite, bnd_e, bd_some, lit_, neg_I, I_lt, I_le, I_eq, I_add, I_sub, I_mul, I_clamp, chk_I, wchk_I, I_succ, Int.toNat_natCast, Int.reduceToNat, b01, b01I, bd_ite, if_true, if_false, ite_self, reduceIte, Int.reduceLE, Int.reduceLT, Int.reduceAdd, Int.reduceSub, Int.reduceNeg, Nat.reduceEqDiff, Nat.reduceAdd]
    rw [if_pos (by omega)]
    have : x = 60 := by omega
    subst this
    exact k M h (fun _ _ => rfl)
  | d + 1, n + 1, x, M, hx, hn, h, k => by
    rw [sd_X9_repair_L2]
    unfold d_X9_repair_L2_body
    rw [show vp_nar .boolean (0 : Int32) = 0 from rfl]
    simp (disch := first | omega | (unfold sm; omega)) only [wq_bd, wq_some, wq_bnd, wq_ite, bnd_e, bd_some, lit_, neg_I, I_lt, I_le, I_eq, I_add, I_sub, I_mul, I_clamp, chk_I, wchk_I, I_succ, Int.toNat_natCast, Int.reduceToNat, b01, b01I, bd_ite, if_true, if_false, ite_self, reduceIte, Int.reduceLE, Int.reduceLT, Int.reduceAdd, Int.reduceSub, Int.reduceNeg, Nat.reduceEqDiff, Nat.reduceAdd]
    rw [if_neg (by omega)]
    refine rclr_L d n (x + 1) _ (by omega) (by omega) (fun b hb => ?_) (fun M1 z1 z2 => k M1 z1 (fun i hi => by rw [z2 i hi, mup_n hi]))
    rw [mup_s]
    by_cases e : b = x
    · subst e; rw [upd_s]; rfl
    · rw [upd_n e]; exact h b (by omega)
  | _, 0, _, _, _, hn, _, _ => absurd hn (by omega)
theorem b_repair : Both d_X8_repair d_X9_repair := by
  intro A hA
  obtain ⟨⟨S, W⟩, l, o, T⟩ := A
  have hi : SInv (S, W) := hA.1
  have h5 := (si_n hi).2.2.2.2.2.1
  have hu : um (fun _ => false) ≤ 60 := by
    unfold um
    have := List.countP_le_length (p := fun b : Nat => !((fun _ => false) b : Bool)) (l := List.range' 0 60)
    rw [List.length_range'] at this
    exact this
  -- what is the same on every road
  have cls : ∀ (Q : Int32 → Mem → Prop) M, CSt M ((S, W), l, o, T) → (∀ M1, CSt M1 ((S, W), l, o, T) → mkC M1 (fun _ => false) → wp (if I (oN (-1) (sickS S (fun _ => false))) = I (-1) then some (I (-5), M1) else bd (d_X2_push 0 M1) fun r7 M6 => d_X8_repair_L49 (fun v14 M15 => some (v14, M15)) fuelN (I (oN (-1) (sickS S (fun _ => false)))) (I 0) (I 0) M6) Q) → wp (d_X8_repair M) Q := by
    intro Q M h y
    unfold d_X8_repair
    simp only [lit_, neg_I]
    rw [show (I 0 : Int32) = I ((0 : Nat) : Int) from rfl]
    refine clr_L 60 fuelN 0 M (by omega) (by unfold fuelN; omega) (fun b hb => absurd hb (by omega)) (fun M1 z1 z2 => ?_)
    have hC1 : CSt M1 ((S, W), l, o, T) := CSt_fr h (fun i hi => z2 i (by omega))
    have hm1 : mkC M1 (fun _ => false) := fun b hb => by rw [z1 b hb]; rfl
    rw [wq_bd]
    refine wp_mono (ftr_spec hi hC1.1 hm1) (fun x M2 q => ?_)
    rw [q.1]
    exact y M2 (cqf_S q.2 hC1) (fun b hb => by rw [q.2 142 (by omega)]; exact hm1 b hb)
  have ref : ∀ (Q : Int32 → Mem → Prop) M, RSt M ((S, W), l, o, T) → (∀ M1, RSt M1 ((S, W), l, o, T) → mkR M1 (fun _ => false) → wp (if I (oN (-5) (sickS S (fun _ => false))) = I (-5) then some (I (-5), M1) else bd (d_X9_record M1) fun r7 M6 => d_X9_repair_L41 (fun v14 M15 => some (v14, M15)) fuelN (I (oN (-5) (sickS S (fun _ => false)))) (I 0) M6) Q) → wp (d_X9_repair M) Q := by
    intro Q M h y
    unfold d_X9_repair
    simp only [lit_, neg_I]
    rw [show (I 0 : Int32) = I ((0 : Nat) : Int) from rfl]
    refine rclr_L 60 fuelN 0 M (by omega) (by unfold fuelN; omega) (fun b hb => absurd hb (by omega)) (fun M1 z1 z2 => ?_)
    have hR1 : RSt M1 ((S, W), l, o, T) := RSt_fr h (fun i hi => z2 i (by omega)) (fun j hj => by rw [z2 143 (by decide)])
    have hm1 : mkR M1 (fun _ => false) := fun b hb => by rw [z1 b hb]; rfl
    rw [wq_bd]
    refine wp_mono (sck_spec hi hR1.1 hR1.2.2.2.2 hm1) (fun x M2 q => ?_)
    rw [q.1]
    exact y M2 (rqf_S q.2.2 q.2.1 hR1) (fun b hb => by rw [q.2.2.1 152 (by decide) (by decide)]; exact hm1 b hb)
  cases hs : sickS S (fun _ => false) with
  | none =>
    rw [hs] at cls ref
    exact ⟨I (-5), ((S, W), l, o, T), hA, fun M h => cls _ M h (fun M1 hC _ => wif_t rfl (wp_some ⟨rfl, hC⟩)), fun M h => ref _ M h (fun M1 hR _ => wif_t rfl (wp_some ⟨rfl, hR⟩))⟩
  | some b =>
    obtain ⟨h1, -, -⟩ := sick_f hs
    have ec : oN (-1) (some b) = (b : Int) := rfl
    have er : oN (-5) (some b) = (b : Int) := rfl
    refine ⟨I (repS 60 S (fun _ => false) (sickS S (fun _ => false)) 0).2, (((repS 60 S (fun _ => false) (sickS S (fun _ => false)) 0).1, W), pushH l (S, W), o, T), AInv_push hA (rep_SI 60 S W _ 0 hi), fun M h => cls _ M h (fun M1 hC hm => ?_), fun M h => ref _ M h (fun M1 hR hm => ?_)⟩
    · rw [hs, ec]
      refine wif_f (by omega) (by omega) (by omega) ?_
      rw [wq_bd]
      refine wp_mono (push_spec (by decide) hC.2.1 hi.2.2.2.2.2.2.1 hC.1) (fun r M2 q => ?_)
      have hC2 : CSt M2 ((S, W), pushH l (S, W), o, T) := CSt_upd hC (cv_congr hC.1 (fun j hj => q.2 _ (by unfold sI; omega))) q.1 (fun i hi => q.2 i (by omega))
      have := crep_L 60 fuelN S (fun _ => false) 0 M2 hC2 (fun b hb => by rw [q.2 142 (by omega)]; exact hm b hb) hi hu (by omega) (by unfold fuelN; omega)
      rw [hs, ec] at this
      exact this
    · rw [hs, er]
      refine wif_f (by omega) (by omega) (by omega) ?_
      rw [wq_bd]
      refine rpush hA hR (fun r M2 k k0 => ?_)
      have := rrep_L 60 fuelN S (fun _ => false) 0 M2 k (fun b hb => by rw [k0 152 (by decide) (by decide)]; exact hm b hb) hi hu (by unfold fuelN; omega)
      rw [hs, er] at this
      exact this
/-! ticks that pass -/
def isB (i a : Nat) : Prop := 42 ≤ i ∧ i < 342 ∧ (i - 42) % 5 = a
abbrev nB (i : Nat) : Nat := (i - 42) / 5
/-- a state behind tick t, with z wishes dropped, as a forecast says -/
def ovS (S : Nat → Int) (t z : Int) (F : Fc) (i : Nat) : Int :=
  if i = 0 then t else if i = 1 then F.1 else if i = 8 then z else if i = 9 then S 9 + F.2.1
  else if (42 ≤ i ∧ i < 342 ∧ (i - 42) % 5 = 3 ∧ (((i - 42) / 5 : Nat) : Int) < S 5) then (F.2.2 ((i - 42) / 5)).1
  else if (42 ≤ i ∧ i < 342 ∧ (i - 42) % 5 = 4 ∧ (((i - 42) / 5 : Nat) : Int) < S 5) then (F.2.2 ((i - 42) / 5)).2.2.2
  else S i
theorem ov_3 {S : Nat → Int} {t z : Int} {F : Fc} {b : Nat} (hb : (b : Int) < S 5) (h60 : b < 60) : ovS S t z F (45 + 5 * b) = (F.2.2 b).1 := by
  unfold ovS
  rw [if_neg (by omega), if_neg (by omega), if_neg (by omega), if_neg (by omega), if_pos (by omega), show (45 + 5 * b - 42) / 5 = b by omega]
theorem ov_4 {S : Nat → Int} {t z : Int} {F : Fc} {b : Nat} (hb : (b : Int) < S 5) (h60 : b < 60) : ovS S t z F (46 + 5 * b) = (F.2.2 b).2.2.2 := by
  unfold ovS
  rw [if_neg (by omega), if_neg (by omega), if_neg (by omega), if_neg (by omega), if_neg (by omega), if_pos (by omega), show (46 + 5 * b - 42) / 5 = b by omega]
theorem ov_n {S : Nat → Int} {t z : Int} {F : Fc} {i : Nat} (h : i = 2 ∨ i = 3 ∨ i = 4 ∨ i = 5 ∨ i = 7 ∨ (10 ≤ i ∧ i < 42)) : ovS S t z F i = S i := by
  unfold ovS
  rw [if_neg (by omega), if_neg (by omega), if_neg (by omega), if_neg (by omega), if_neg (by omega), if_neg (by omega)]
theorem ov_b {S : Nat → Int} {t z : Int} {F : Fc} {a b : Nat} (h : a < 3) : ovS S t z F (42 + a + 5 * b) = S (42 + a + 5 * b) := by
  unfold ovS
  rw [if_neg (by omega), if_neg (by omega), if_neg (by omega), if_neg (by omega), if_neg (by omega), if_neg (by omega)]
theorem ov_0 {S : Nat → Int} {t z : Int} {F : Fc} : ovS S t z F 0 = t ∧ ovS S t z F 1 = F.1 ∧ ovS S t z F 8 = z ∧ ovS S t z F 9 = S 9 + F.2.1 := ⟨rfl, rfl, rfl, rfl⟩
theorem ov_start {S : Nat → Int} (h5 : S 5 ≤ 60) (ps : List Nat) : ovS S (S 0) (S 8) (runS S ps 0) = S := by
  funext i
  unfold ovS
  split
  · rename_i h; rw [h]
  · split
    · rename_i h; rw [h]; rfl
    · split
      · rename_i h; rw [h]
      · split
        · rename_i h
          rw [h]
          show S 9 + 0 = S 9
          omega
        · split
          · rename_i h
            show (D0 S ((i - 42) / 5)).1 = S i
            unfold D0
            rw [if_pos h.2.2.2]
            dsimp only
            congr 1
            omega
          · split
            · rename_i h
              show (D0 S ((i - 42) / 5)).2.2.2 = S i
              unfold D0
              rw [if_pos h.2.2.2]
              dsimp only
              congr 1
              omega
            · rfl
/-- how many are done -/
def dnF (ps : List Nat) (F : Fc) : Nat := ps.countP (fun b => decide ((F.2.2 b).1 = 2))
theorem dn_set {D : Nat → Ce} {b : Nat} {c : Ce} : ∀ ps : List Nat, ps.Nodup → b ∈ ps → (D b).1 ≤ 1 → ps.countP (fun x => decide ((setC D b c x).1 = 2)) = ps.countP (fun x => decide ((D x).1 = 2)) + if c.1 = 2 then 1 else 0
  | [], _, hb, _ => by cases hb
  | x :: l, hn, hb, hd => by
    have hn2 := List.nodup_cons.mp hn
    rw [List.countP_cons, List.countP_cons]
    by_cases e : x = b
    · subst e
      have e2 : l.countP (fun b => decide ((setC D x c b).1 = 2)) = l.countP (fun b => decide ((D b).1 = 2)) := by
        refine List.countP_congr (fun y hy => ?_)
        rw [setC_n (fun h : y = x => hn2.1 (by rw [← h]; exact hy))]
      rw [e2, setC_s, if_neg (show ¬ decide ((D x).1 = 2) = true by rw [decide_eq_false (by omega)]; decide)]
      by_cases h : c.1 = 2
      · rw [if_pos (decide_eq_true h), if_pos h]
      · rw [if_neg (show ¬ decide (c.1 = 2) = true by rw [decide_eq_false h]; decide), if_neg h]
    · have hb' : b ∈ l := by
        rcases List.mem_cons.mp hb with h | h
        · exact absurd h.symm e
        · exact h
      have ih := dn_set (c := c) l hn2.2 hb' hd
      rw [setC_n e, ih]
      omega
theorem dn_ask {S : Nat → Int} {ps : List Nat} (hs : ScOk S ps) {t : Int} {F : Fc} {b : Nat} (hb : b ∈ ps) : dnF ps (askS S t F b) = dnF ps F + if askP S t F.2.2 b ∧ (askC S t F.1 (F.2.2 b) b).1 = 2 then 1 else 0 := by
  unfold dnF askS
  by_cases c : askP S t F.2.2 b
  · rw [if_pos c]
    dsimp only
    rw [dn_set ps hs.2.2.2.2.2.2.2.1 hb c.1]
    by_cases k : (askC S t F.1 (F.2.2 b) b).1 = 2
    · rw [if_pos k, if_pos ⟨c, k⟩]
    · rw [if_neg k, if_neg (fun h => k h.2)]
  · rw [if_neg c, if_neg (fun h => c h.1)]
    rfl
/-- the reference's step of a booking -/
theorem draws_spec {S : Nat → Int} {W W' : List Wi} (hi : SInv (S, W)) {t z : Int} (ht : 1 ≤ t ∧ t ≤ 20000) {F : Fc} (hF : FI S (rl S (-1) false) t F) (ho : ∀ y, y ∉ rl S (-1) false → F.2.2 y = D0 S y) {M : Mem} (hr : rv (M 144) (ovS S t z F, W')) {b : Nat} (hb : (b : Int) < S 5) : wp (d_X9_draws (I b) M) (fun r M1 => r = I (if b ∈ rl S (-1) false ∧ askP S t F.2.2 b ∧ (askC S t F.1 (F.2.2 b) b).1 = 2 then 1 else 0) ∧ rv (M1 144) (ovS S t z (if b ∈ rl S (-1) false then askS S t F b else F), W') ∧ ∀ i, i ≠ 144 → M1 i = M i) := by
  have h5 := (si_n hi).2.2.2.2.2.1
  have h4 := (si_n hi).2.2.2.2.1
  have h0 := (si_n hi).1
  have hs := ok_plain hi
  obtain ⟨k1, k2, k3, k4, -, -⟩ := si_b hi hb
  obtain ⟨q0, q1, q2, q3, q4⟩ := rof0 hr (b := b) (by omega)
  rw [show 43 + 5 * b = 42 + 1 + 5 * b by omega, ov_b (by decide), show 42 + 1 + 5 * b = 43 + 5 * b by omega, rcN_e hi hb] at q1
  rw [show 44 + 5 * b = 42 + 2 + 5 * b by omega, ov_b (by decide), show 42 + 2 + 5 * b = 44 + 5 * b by omega] at q2
  rw [ov_3 hb (by omega)] at q3
  rw [ov_4 hb (by omega)] at q4
  have hrl := rcN_l hi hb
  have hro := si_r hi hrl.1
  unfold rcOk at hro
  obtain ⟨o0, o1, o2, o3⟩ := rofR hr (r := rcN S b) (by omega)
  rw [ov_n (by omega)] at o0 o1 o2
  obtain ⟨e0, e1, -, -, -, -, -, -, -, e9⟩ := rv_n hr
  have v0 : ovS S t z F 0 = t := rfl
  have v1 : ovS S t z F 1 = F.1 := rfl
  have v9 : ovS S t z F 9 = S 9 + F.2.1 := rfl
  rw [v0] at e0
  rw [v1] at e1
  rw [v9] at e9
  -- its state, and that it is open
  have hst : 0 ≤ (F.2.2 b).1 ∧ (F.2.2 b).1 ≤ 4 ∧ (b ∉ rl S (-1) false → 1 < (F.2.2 b).1) := by
    by_cases c : b ∈ rl S (-1) false
    · have := (hF.2 b c).1
      exact ⟨by omega, by omega, fun h => absurd c h⟩
    · have e := ho b c
      have hD : (D0 S b).1 = S (45 + 5 * b) := by unfold D0; rw [if_pos hb]
      rw [e, hD]
      refine ⟨k4.1, k4.2, fun _ => ?_⟩
      by_cases z : S (45 + 5 * b) ≤ 1
      · exact absurd (rl_mem.mpr (Or.inl ⟨hb, z, by omega⟩)) c
      · omega
  have hop : d_X9_isOpen (I b) M = some ((if (F.2.2 b).1 ≤ 1 then 1 else 0), M) := by
    unfold d_X9_isOpen
    simp only [lit_, neg_I]
    rw [q3, bd_some]
    by_cases z : (F.2.2 b).1 ≤ 1
    · rw [if_neg (by rw [I_lt (by unfold sm; omega) (by unfold sm; omega)]; omega), if_pos z]
    · rw [if_pos (by rw [I_lt (by unfold sm; omega) (by unfold sm; omega)]; omega), if_neg z]
  unfold d_X9_draws
  simp only [lit_, neg_I]
  rw [q1, bd_some, q2, bd_some, o2, bd_some, I_add, I_sub, wq_bnd]
  by_cases c0 : (F.2.2 b).1 ≤ 1
  · have hm : b ∈ rl S (-1) false := by
      by_cases c : b ∈ rl S (-1) false
      · exact c
      · have := hst.2.2 c; omega
    have hp := hF.1
    rw [if_pos hm]
    refine gd_t hop c0 ?_
    rw [wchk_I (by decide) (by decide) (by decide), I_clamp (by unfold sm; decide), show (0 : Int).toNat = 0 from rfl, e0, q2, bd_some]
    by_cases c1 : S (44 + 5 * b) ≤ t ∧ t ≤ S (44 + 5 * b) + S (12 + 4 * rcN S b) - 1
    · have ha : askP S t F.2.2 b := ⟨c0, c1.1, c1.2⟩
      refine gd_t (rin_I (by omega) (by omega) (by omega) M) c1 ?_
      rw [wchk_I (by decide) (by decide) (by decide), I_clamp (by unfold sm; decide), show (1 : Int).toNat = 1 from rfl, e1, o0, bd_some]
      unfold askS
      rw [if_pos ha]
      by_cases d : F.1 < S (10 + 4 * rcN S b)
      · have hC : askC S t F.1 (F.2.2 b) b = (3, t, min (F.2.2 b).2.2.1 (F.1 - S (10 + 4 * rcN S b)), (F.2.2 b).2.2.2) := by unfold askC; rw [if_pos d]
        have hT : askT S F.1 b = 0 := by unfold askT; rw [if_pos d]
        rw [if_neg (by rw [I_le (by unfold sm; omega) (by unfold sm; omega)]; omega), (puts_e (b := b) (by omega) _).2.2.2.1, bd_some, wq_some, hC, hT]
        refine ⟨?_, ?_, fun i hi => by rw [mup_n hi]⟩
        · rw [if_neg (fun h => absurd h.2.2 (show ¬ (3 : Int) = 2 by decide))]
        · have hv := rv_set hr (i := 45 + 5 * b) (by omega) (by omega) 3
          rw [mup_s]
          have e : ovS S t z (F.1 - 0, F.2.1 + 0, setC F.2.2 b (3, t, min (F.2.2 b).2.2.1 (F.1 - S (10 + 4 * rcN S b)), (F.2.2 b).2.2.2)) = setS (ovS S t z F) (45 + 5 * b) 3 := by
            funext i
            unfold setS
            by_cases c : i = 45 + 5 * b
            · rw [if_pos c, c, ov_3 hb (by omega)]
              dsimp only
              rw [setC_s]
            · rw [if_neg c]
              unfold ovS
              dsimp only
              rw [Int.sub_zero, Int.add_zero]
              by_cases c2 : (i - 42) / 5 = b
              · rw [c2, setC_s]
                by_cases c3 : 42 ≤ i ∧ i < 342 ∧ (i - 42) % 5 = 3 ∧ (b : Int) < S 5
                · exact absurd c3 (by omega)
                · rw [if_neg c3, if_neg c3]
              · rw [setC_n c2]
          rw [e]
          exact hv
      · have hC : askC S t F.1 (F.2.2 b) b = ((if t = S (44 + 5 * b) + S (12 + 4 * rcN S b) - 1 then 2 else 1), (F.2.2 b).2.1, min (F.2.2 b).2.2.1 (F.1 - S (10 + 4 * rcN S b)), (F.2.2 b).2.2.2 + 1) := by unfold askC; rw [if_neg d]
        have hT : askT S F.1 b = min (S (11 + 4 * rcN S b)) F.1 := by unfold askT; rw [if_neg d]
        rw [if_pos (by rw [I_le (by unfold sm; omega) (by unfold sm; omega)]; omega), o1, bd_some, hC, hT]
        have main : ∀ tk, tk = min (S (11 + 4 * rcN S b)) F.1 → wp (d_X9_draws_B106 (I b) (I (S (44 + 5 * b) + S (12 + 4 * rcN S b) - 1)) (I tk) M) (fun r M1 => r = I (if b ∈ rl S (-1) false ∧ askP S t F.2.2 b ∧ (if t = S (44 + 5 * b) + S (12 + 4 * rcN S b) - 1 then 2 else 1 : Int) = 2 then 1 else 0) ∧ rv (M1 144) (ovS S t z (F.1 - min (S (11 + 4 * rcN S b)) F.1, F.2.1 + min (S (11 + 4 * rcN S b)) F.1, setC F.2.2 b ((if t = S (44 + 5 * b) + S (12 + 4 * rcN S b) - 1 then 2 else 1), (F.2.2 b).2.1, min (F.2.2 b).2.2.1 (F.1 - S (10 + 4 * rcN S b)), (F.2.2 b).2.2.2 + 1)), W') ∧ ∀ i, i ≠ 144 → M1 i = M i) := by
          intro tk htk
          subst htk
          generalize htk : min (S (11 + 4 * rcN S b)) F.1 = tk
          have c1' := rv_set hr (i := 1) (by decide) (by decide) (F.1 - tk)
          have c2' := rv_set c1' (i := 9) (by decide) (by decide) (S 9 + F.2.1 + tk)
          have c3' := rv_set c2' (i := 46 + 5 * b) (by omega) (by omega) ((F.2.2 b).2.2.2 + 1)
          have c4' := fun v => rv_set c3' (i := 45 + 5 * b) (by omega) (by omega) v
          unfold d_X9_draws_B106
          simp only [lit_, neg_I]
          rw [wchk_I (by decide) (by decide) (by decide), wchk_I (by decide) (by decide) (by decide), wq_bnd, I_clamp (by unfold sm; decide), show (1 : Int).toNat = 1 from rfl, e1, I_sub, wchk_I (by decide) (by decide) (by decide), wchk_I (by decide) (by decide) (by decide), wq_bnd, I_clamp (by unfold sm; decide), show (9 : Int).toNat = 9 from rfl]
          have e9' : (mup M 144 1 (I (F.1 - tk))) 144 9 = I (S 9 + F.2.1) := by rw [mup_s, upd_n (by decide)]; exact e9
          rw [e9', I_add]
          have hr2 : rv ((mup (mup M 144 1 (I (F.1 - tk))) 144 9 (I (S 9 + F.2.1 + tk))) 144) (setS (setS (ovS S t z F) 1 (F.1 - tk)) 9 (S 9 + F.2.1 + tk), W') := by rw [mup_s, mup_s]; exact c2'
          obtain ⟨-, -, -, -, p4⟩ := rof0 hr2 (b := b) (by omega)
          rw [setS_n (by omega), setS_n (by omega), ov_4 hb (by omega)] at p4
          rw [p4, bd_some, I_add, (puts_e (b := b) (by omega) _).2.2.2.2, bd_some, wchk_I (by decide) (by decide) (by decide), I_clamp (by unfold sm; decide), show (0 : Int).toNat = 0 from rfl]
          have e0' : (mup (mup (mup M 144 1 (I (F.1 - tk))) 144 9 (I (S 9 + F.2.1 + tk))) 144 (46 + 5 * b) (I ((F.2.2 b).2.2.2 + 1))) 144 0 = I t := by rw [mup_s, upd_n (by omega), mup_s, upd_n (by decide), mup_s, upd_n (by decide)]; exact e0
          rw [e0']
          have fin : ∀ v : Int, wp (d_X9_draws_B163 (I (S (44 + 5 * b) + S (12 + 4 * rcN S b) - 1)) (I v) (I 3) (I b) (mup (mup (mup M 144 1 (I (F.1 - tk))) 144 9 (I (S 9 + F.2.1 + tk))) 144 (46 + 5 * b) (I ((F.2.2 b).2.2.2 + 1)))) (fun r M1 => r = I (if t = S (44 + 5 * b) + S (12 + 4 * rcN S b) - 1 then 1 else 0) ∧ rv (M1 144) (ovS S t z (F.1 - tk, F.2.1 + tk, setC F.2.2 b (v, (F.2.2 b).2.1, min (F.2.2 b).2.2.1 (F.1 - S (10 + 4 * rcN S b)), (F.2.2 b).2.2.2 + 1)), W') ∧ ∀ i, i ≠ 144 → M1 i = M i) := by
            intro v
            unfold d_X9_draws_B163
            simp only [lit_, neg_I]
            rw [(puts_e (b := b) (by omega) _).2.2.2.1, bd_some, wchk_I (by decide) (by decide) (by decide), I_clamp (by unfold sm; decide), show (0 : Int).toNat = 0 from rfl]
            have e0'' : (mup (mup (mup (mup M 144 1 (I (F.1 - tk))) 144 9 (I (S 9 + F.2.1 + tk))) 144 (46 + 5 * b) (I ((F.2.2 b).2.2.2 + 1))) 144 (45 + 5 * b) (I v)) 144 0 = I t := by rw [mup_s, upd_n (by omega)]; exact e0'
            rw [e0'']
            have e : ovS S t z (F.1 - tk, F.2.1 + tk, setC F.2.2 b (v, (F.2.2 b).2.1, min (F.2.2 b).2.2.1 (F.1 - S (10 + 4 * rcN S b)), (F.2.2 b).2.2.2 + 1)) = setS (setS (setS (setS (ovS S t z F) 1 (F.1 - tk)) 9 (S 9 + F.2.1 + tk)) (46 + 5 * b) ((F.2.2 b).2.2.2 + 1)) (45 + 5 * b) v := by
              funext i
              by_cases c : i = 45 + 5 * b
              · rw [c, setS_s, ov_3 hb (by omega)]
                dsimp only
                rw [setC_s]
              · rw [setS_n c]
                by_cases c' : i = 46 + 5 * b
                · rw [c', setS_s, ov_4 hb (by omega)]
                  dsimp only
                  rw [setC_s]
                · rw [setS_n c']
                  by_cases c9 : i = 9
                  · subst c9
                    rw [setS_s]
                    show S 9 + (F.2.1 + tk) = S 9 + F.2.1 + tk
                    omega
                  · rw [setS_n c9]
                    by_cases c1 : i = 1
                    · subst c1
                      rw [setS_s]
                      rfl
                    · rw [setS_n c1]
                      unfold ovS
                      dsimp only
                      rw [if_neg c1, if_neg c1, if_neg c9, if_neg c9]
                      by_cases c2 : (i - 42) / 5 = b
                      · rw [c2, setC_s]
                        rw [if_neg (show ¬ (42 ≤ i ∧ i < 342 ∧ (i - 42) % 5 = 3 ∧ (b : Int) < S 5) by omega), if_neg (show ¬ (42 ≤ i ∧ i < 342 ∧ (i - 42) % 5 = 3 ∧ (b : Int) < S 5) by omega), if_neg (show ¬ (42 ≤ i ∧ i < 342 ∧ (i - 42) % 5 = 4 ∧ (b : Int) < S 5) by omega), if_neg (show ¬ (42 ≤ i ∧ i < 342 ∧ (i - 42) % 5 = 4 ∧ (b : Int) < S 5) by omega)]
                      · rw [setC_n c2]
            have hfr : ∀ i, i ≠ 144 → (mup (mup (mup (mup M 144 1 (I (F.1 - tk))) 144 9 (I (S 9 + F.2.1 + tk))) 144 (46 + 5 * b) (I ((F.2.2 b).2.2.2 + 1))) 144 (45 + 5 * b) (I v)) i = M i := fun i hi => by rw [mup_n hi, mup_n hi, mup_n hi, mup_n hi]
            have hv4 : rv ((mup (mup (mup (mup M 144 1 (I (F.1 - tk))) 144 9 (I (S 9 + F.2.1 + tk))) 144 (46 + 5 * b) (I ((F.2.2 b).2.2.2 + 1))) 144 (45 + 5 * b) (I v)) 144) (ovS S t z (F.1 - tk, F.2.1 + tk, setC F.2.2 b (v, (F.2.2 b).2.1, min (F.2.2 b).2.2.1 (F.1 - S (10 + 4 * rcN S b)), (F.2.2 b).2.2.2 + 1)), W') := by
              rw [e, mup_s, mup_s, mup_s, mup_s]
              exact c4' v
            by_cases k : t = S (44 + 5 * b) + S (12 + 4 * rcN S b) - 1
            · refine wif_t k (wp_some ⟨?_, hv4, hfr⟩)
              rw [if_pos k]
            · refine wif_f (by omega) (by omega) k (wp_some ⟨?_, hv4, hfr⟩)
              rw [if_neg k]
          by_cases k : t = S (44 + 5 * b) + S (12 + 4 * rcN S b) - 1
          · refine wif_t k ?_
            have := fin 2
            rw [if_pos k] at this
            simp only [if_pos k]
            rw [if_pos ⟨hm, ha, trivial⟩]
            exact this
          · refine wif_f (by omega) (by omega) k ?_
            have := fin 1
            rw [if_neg k] at this
            simp only [if_neg k]
            rw [if_neg (fun h => absurd h.2.2 (by decide))]
            exact this
        rw [wchk_I (by decide) (by decide) (by decide), e1]
        by_cases d3 : S (11 + 4 * rcN S b) ≤ F.1
        · rw [if_pos (by rw [I_le (by unfold sm; omega) (by unfold sm; omega)]; exact d3)]
          exact main _ (by omega)
        · rw [if_neg (by rw [I_le (by unfold sm; omega) (by unfold sm; omega)]; exact d3), wchk_I (by decide) (by decide) (by decide)]
          exact main F.1 (by omega)
    · refine gd_f (rin_I (by omega) (by omega) (by omega) M) c1 ?_
      have hna : ¬ askP S t F.2.2 b := fun h => c1 h.2
      rw [wq_some]
      refine ⟨?_, ?_, fun i _ => rfl⟩
      · rw [if_neg (fun h => hna h.2.1)]
      · unfold askS
        rw [if_neg hna]
        exact hr
  · refine gd_f hop c0 ?_
    have hna : ¬ askP S t F.2.2 b := fun h => c0 h.1
    rw [wq_some]
    refine ⟨?_, ?_, fun i _ => rfl⟩
    · rw [if_neg (fun h => hna h.2.1)]
    · by_cases hm : b ∈ rl S (-1) false
      · rw [if_pos hm]
        unfold askS
        rw [if_neg hna]
        exact hr
      · rw [if_neg hm]
        exact hr
/-! pass -/
theorem rl_pl {S : Nat → Int} : rl S (-1) false = (List.range' 0 (S 5).toNat).filter (inP S (-1)) := by
  unfold rl
  rw [if_neg (by decide), List.append_nil]
theorem dl_L {S : Nat → Int} {W W' : List Wi} (hi : SInv (S, W)) {t z : Int} (ht : 1 ≤ t ∧ t ≤ 20000) {kx : Int32 → Mem → Ans} {Q : Int32 → Mem → Prop} : ∀ (d n x : Nat) (M : Mem) (F : Fc) (a : Int), (x : Int) + d = S 5 → d < n → rv (M 144) (ovS S t z F, W') → FI S (rl S (-1) false) t F → (∀ y, y ∉ rl S (-1) false → F.2.2 y = D0 S y) → (∀ M1 F1, F1 = ((List.range' x d).filter (inP S (-1))).foldl (askS S t) F → rv (M1 144) (ovS S t z F1, W') → FI S (rl S (-1) false) t F1 → (∀ i, i ≠ 144 → M1 i = M i) → wp (kx (I (a + ((dnF (rl S (-1) false) F1 : Int) - (dnF (rl S (-1) false) F : Int)))) M1) Q) → wp (d_X9_aTick_L65 kx n (I a) (I x) M) Q
  | 0, n + 1, x, M, F, a, hx, hn, hr, hF, ho, k => by
    have h5 := (si_n hi).2.2.2.2.2.1
    have e5 := (rv_n hr).2.2.2.2.2.1
    rw [ov_n (by omega)] at e5
    rw [sd_X9_aTick_L65]
    unfold d_X9_aTick_L65_body
    simp only [lit_, neg_I]
    rw [wchk_I (by decide) (by decide) (by decide), I_clamp (by unfold sm; decide), show (5 : Int).toNat = 5 from rfl, e5, if_pos (by rw [I_le (by unfold sm; omega) (by unfold sm; omega)]; omega)]
    have := k M F rfl hr hF (fun _ _ => rfl)
    rw [show a + ((dnF (rl S (-1) false) F : Int) - (dnF (rl S (-1) false) F : Int)) = a by omega] at this
    exact this
  | d + 1, n + 1, x, M, F, a, hx, hn, hr, hF, ho, k => by
    have h5 := (si_n hi).2.2.2.2.2.1
    have hs := ok_plain hi
    have e5 := (rv_n hr).2.2.2.2.2.1
    rw [ov_n (by omega)] at e5
    have hb : (x : Int) < S 5 := by omega
    rw [List.range'_succ, List.filter_cons] at k
    rw [sd_X9_aTick_L65]
    unfold d_X9_aTick_L65_body
    simp only [lit_, neg_I]
    rw [wchk_I (by decide) (by decide) (by decide), I_clamp (by unfold sm; decide), show (5 : Int).toNat = 5 from rfl, e5, if_neg (by rw [I_le (by unfold sm; omega) (by unfold sm; omega)]; omega), wq_bd]
    refine wp_mono (draws_spec hi ht hF ho hr hb) (fun r M2 q => ?_)
    obtain ⟨q1, q2, q3⟩ := q
    have fin : ∀ g : Int, g = (if x ∈ rl S (-1) false ∧ askP S t F.2.2 x ∧ (askC S t F.1 (F.2.2 x) x).1 = 2 then 1 else 0 : Int) → wp (d_X9_aTick_B89 kx (d_X9_aTick_L65 kx n) (I x) (I g) (I a) M2) Q := by
      intro g hg
      unfold d_X9_aTick_B89
      rw [wq_bnd, wq_bnd, show (1 : Int32) = I 1 from rfl, I_add, I_add, I_succ]
      by_cases c : x ∈ rl S (-1) false
      · have hin : inP S (-1) x = true := by
          rcases rl_mem.mp c with hh | hh
          · exact decide_eq_true hh.2
          · exact absurd hh.1 (by decide)
        rw [if_pos c] at q2
        rw [hin, if_pos rfl, List.foldl_cons] at k
        refine dl_L hi ht d n (x + 1) M2 _ (a + g) (by omega) (by omega) q2 (ask_FI hs ht.1 hF c) (fun y hy => ?_) (fun M1 F1 y1 y2 y3 y4 => ?_)
        · rw [← ho y hy]
          unfold askS
          split
          · exact setC_n (fun e => hy (e ▸ c))
          · rfl
        · have := k M1 F1 y1 y2 y3 (fun i hi => (y4 i hi).trans (q3 i hi))
          have e := dn_ask (S := S) (t := t) (F := F) hs c
          have e2 : g = ((if askP S t F.2.2 x ∧ (askC S t F.1 (F.2.2 x) x).1 = 2 then 1 else 0 : Nat) : Int) := by
            rw [hg]
            by_cases z : askP S t F.2.2 x ∧ (askC S t F.1 (F.2.2 x) x).1 = 2
            · rw [if_pos z, if_pos ⟨c, z⟩]; rfl
            · rw [if_neg z, if_neg (fun h => z h.2)]; rfl
          rw [show a + g + ((dnF (rl S (-1) false) F1 : Int) - (dnF (rl S (-1) false) (askS S t F x) : Int)) = a + ((dnF (rl S (-1) false) F1 : Int) - (dnF (rl S (-1) false) F : Int)) by omega]
          exact this
      · have hin : inP S (-1) x = false := by
          refine decide_eq_false (fun hh => c (rl_mem.mpr (Or.inl ⟨hb, hh⟩)))
        rw [if_neg c] at q2
        rw [hin, if_neg (by decide)] at k
        rw [if_neg (fun h => c h.1)] at hg
        subst hg
        rw [Int.add_zero]
        exact dl_L hi ht d n (x + 1) M2 F a (by omega) (by omega) q2 hF ho (fun M1 F1 y1 y2 y3 y4 => k M1 F1 y1 y2 y3 (fun i hi => (y4 i hi).trans (q3 i hi)))
    rw [q1]
    by_cases c : x ∈ rl S (-1) false ∧ askP S t F.2.2 x ∧ (askC S t F.1 (F.2.2 x) x).1 = 2
    · rw [if_pos c] at fin ⊢
      exact wif_f (by omega) (by omega) (by decide) (fin 1 rfl)
    · rw [if_neg c] at fin ⊢
      exact wif_t rfl (fin 0 rfl)
  | _, 0, _, _, _, _, _, hn, _, _, _, _ => absurd hn (by omega)
theorem aTick_spec {S : Nat → Int} {W W' : List Wi} (hi : SInv (S, W)) {t z : Int} (ht : 0 ≤ t ∧ t ≤ 19999) {F : Fc} (hF : FI S (rl S (-1) false) t F) (ho : ∀ y, y ∉ rl S (-1) false → F.2.2 y = D0 S y) (hl : W'.length ≤ 8) (hw : ∀ w ∈ W', 0 ≤ w.2.2 ∧ w.2.2 ≤ 100000) {M : Mem} (hr : rv (M 144) (ovS S t z F, W')) : wp (d_X9_aTick M) (fun r M1 => r = I ((dnF (rl S (-1) false) (tickS S (rl S (-1) false) (t + 1) F) : Int) - (dnF (rl S (-1) false) F : Int)) ∧ rv (M1 144) (ovS S (t + 1) (z + ((W'.filter (fun w => !qW (t + 1) w)).length : Nat)) (tickS S (rl S (-1) false) (t + 1) F), W'.filter (qW (t + 1))) ∧ ∀ i, i ≠ 144 → M1 i = M i) := by
  have hs := ok_plain hi
  obtain ⟨g0, g1, g2, g3, g4, g5, -⟩ := si_n hi
  obtain ⟨e0, e1, e2, e3, -⟩ := rv_n hr
  have v0 : ovS S t z F 0 = t := rfl
  have v1 : ovS S t z F 1 = F.1 := rfl
  rw [v0] at e0
  rw [v1] at e1
  rw [ov_n (by omega)] at e2 e3
  have hp := hF.1
  have hFu := FI_up hs hF
  unfold d_X9_aTick
  simp (disch := first | omega | (unfold sm; omega)) only [wq_bd, wq_some, wq_bnd, wq_ite, bnd_e, bd_some, lit_, neg_I, I_lt, I_le, I_eq, I_add, I_sub, I_mul, I_clamp, chk_I, wchk_I, I_succ, Int.toNat_natCast, Int.reduceToNat, b01, b01I, bd_ite, if_true, if_false, ite_self, reduceIte, Int.reduceLE, Int.reduceLT, Int.reduceAdd, Int.reduceSub, Int.reduceNeg, Nat.reduceEqDiff, Nat.reduceAdd, e0, mup_s, upd_n (show (1 : Nat) ≠ 0 by decide), upd_n (show (3 : Nat) ≠ 0 by decide), upd_n (show (2 : Nat) ≠ 1 by decide), upd_n (show (2 : Nat) ≠ 0 by decide), upd_s, e1, e2, e3]
  have main : ∀ p, p = min (S 2) (F.1 + S 3) → wp (d_X9_aTick_B60 (I p) (I 1) (mup (mup M 144 0 (I (t + 1))) 144 1 (I (F.1 + S 3)))) (fun r M1 => r = I ((dnF (rl S (-1) false) (tickS S (rl S (-1) false) (t + 1) F) : Int) - (dnF (rl S (-1) false) F : Int)) ∧ rv (M1 144) (ovS S (t + 1) (z + ((W'.filter (fun w => !qW (t + 1) w)).length : Nat)) (tickS S (rl S (-1) false) (t + 1) F), W'.filter (qW (t + 1))) ∧ ∀ i, i ≠ 144 → M1 i = M i) := by
    intro p hp'
    subst hp'
    generalize hpr : min (S 2) (F.1 + S 3) = p at *
    unfold d_X9_aTick_B60
    simp only [lit_, neg_I]
    rw [wchk_I (by decide) (by decide) (by decide), wq_bnd, I_clamp (by unfold sm; decide), show (1 : Int).toNat = 1 from rfl]
    have c1 := rv_set (rv_set (rv_set hr (i := 0) (by decide) (by decide) (t + 1)) (i := 1) (by decide) (by decide) (F.1 + S 3)) (i := 1) (by decide) (by decide) p
    have ev : setS (setS (setS (ovS S t z F) 0 (t + 1)) 1 (F.1 + S 3)) 1 p = ovS S (t + 1) z (p, F.2) := by
      funext i
      by_cases c : i = 1
      · subst c; rw [setS_s]; rfl
      · rw [setS_n c, setS_n c]
        by_cases c0 : i = 0
        · subst c0; rw [setS_s]; rfl
        · rw [setS_n c0]
          unfold ovS
          dsimp only
          rw [if_neg c0, if_neg c0, if_neg c, if_neg c]
    rw [ev] at c1
    have hr1 : rv ((mup (mup (mup M 144 0 (I (t + 1))) 144 1 (I (F.1 + S 3))) 144 1 (I p)) 144) (ovS S (t + 1) z (p, F.2), W') := by rw [mup_s, mup_s, mup_s]; exact c1
    rw [show (I 0 : Int32) = I ((0 : Nat) : Int) from rfl]
    refine dl_L hi (t := t + 1) (by omega) (S 5).toNat fuelN 0 _ (p, F.2) ((0 : Nat) : Int) (by omega) (by unfold fuelN; omega) hr1 hFu ho (fun M1 F1 y1 y2 y3 y4 => ?_)
    have eF : F1 = tickS S (rl S (-1) false) (t + 1) F := by
      rw [y1]
      show _ = (rl S (-1) false).foldl (askS S (t + 1)) (min (S 2) (F.1 + S 3), F.2)
      rw [hpr, rl_pl]
    have ed : dnF (rl S (-1) false) (p, F.2) = dnF (rl S (-1) false) F := rfl
    rw [eF] at y2 y3
    rw [eF, ed]
    refine rdrop_L (tk := t + 1) (by omega) W'.length fuelN 0 M1 _ W' (by omega) (by unfold fuelN; omega) y2 rfl hl hw (fun M2 z1 z2 => ?_)
    rw [wq_some]
    rw [List.drop_zero, List.take_zero, List.nil_append] at z1
    refine ⟨?_, ?_, fun i hi => ?_⟩
    · congr 1
      omega
    · have e8 : ovS S (t + 1) z (tickS S (rl S (-1) false) (t + 1) F) 8 = z := rfl
      rw [e8] at z1
      have : setS (ovS S (t + 1) z (tickS S (rl S (-1) false) (t + 1) F)) 8 (z + ((W'.filter (fun w => !qW (t + 1) w)).length : Nat)) = ovS S (t + 1) (z + ((W'.filter (fun w => !qW (t + 1) w)).length : Nat)) (tickS S (rl S (-1) false) (t + 1) F) := by
        funext i
        by_cases c : i = 8
        · subst c; rw [setS_s]; rfl
        · rw [setS_n c]
          unfold ovS
          rw [if_neg c, if_neg c]
      rw [this] at z1
      exact z1
    · rw [z2 i hi, y4 i hi, mup_n hi, mup_n hi, mup_n hi]
  by_cases c : F.1 + S 3 ≤ S 2
  · rw [if_pos c]
    exact main _ (by omega)
  · rw [if_neg c]
    exact main _ (by omega)
/-- the wishes behind n ticks -/
def pasW (S : Nat → Int) (W : List Wi) : Nat → List Wi
  | 0 => W
  | n + 1 => W.filter (qW (S 0 + (n + 1 : Nat)))
theorem pasW_s (S : Nat → Int) (W : List Wi) : ∀ n : Nat, (pasW S W n).filter (qW (S 0 + (n + 1 : Nat))) = pasW S W (n + 1)
  | 0 => rfl
  | n + 1 => by
    show (W.filter (qW (S 0 + (n + 1 : Nat)))).filter (qW (S 0 + (n + 1 + 1 : Nat))) = W.filter (qW (S 0 + (n + 1 + 1 : Nat)))
    rw [List.filter_filter]
    refine List.filter_congr (fun w _ => ?_)
    unfold qW
    rw [← Bool.decide_and]
    refine decide_eq_decide.mpr ?_
    omega
theorem pasW_sub (S : Nat → Int) (W : List Wi) (n : Nat) : ∀ w ∈ pasW S W n, w ∈ W := by
  intro w hw
  cases n with
  | zero => exact hw
  | succ n => exact (List.mem_filter.mp hw).1
theorem pasW_len (S : Nat → Int) (W : List Wi) (n : Nat) : (pasW S W n).length ≤ W.length := by
  cases n with
  | zero => exact Nat.le_refl _
  | succ n => exact List.length_filter_le _ _
theorem flen (q : Wi → Bool) (W : List Wi) : (W.filter q).length + (W.filter (fun w => !q w)).length = W.length := by
  induction W with
  | nil => rfl
  | cons w W ih =>
    rw [List.filter_cons, List.filter_cons]
    cases q w <;> simp only [Bool.not_false, Bool.not_true, if_true, if_false, Bool.false_eq_true, List.length_cons] <;> omega
def pasS (S : Nat → Int) (W : List Wi) (n : Nat) : St := (ovS S (S 0 + n) (S 8 + (W.length - (pasW S W n).length : Int)) (runS S (rl S (-1) false) n), pasW S W n)
def donS (S : Nat → Int) (n : Nat) : Int := (dnF (rl S (-1) false) (runS S (rl S (-1) false) n) : Int)
theorem wi_b {S : Nat → Int} {W : List Wi} (hi : SInv (S, W)) : ∀ w ∈ W, 0 ≤ w.2.2 ∧ w.2.2 ≤ 100000 := by
  intro w hw
  have := wi_ok hi hw
  have := (si_n hi).1
  omega
theorem rpas_L {S : Nat → Int} {W : List Wi} (hi : SInv (S, W)) {N : Nat} (hN : N ≤ 200) {kx : Int32 → Mem → Ans} {Q : Int32 → Mem → Prop} : ∀ (d n x : Nat) (M : Mem), x + d = N → d < n → rv (M 144) (pasS S W x) → (∀ M1, rv (M1 144) (pasS S W N) → (∀ i, i ≠ 144 → M1 i = M i) → wp (kx (I (donS S N - donS S 0)) M1) Q) → wp (d_X9_pass_L39 (I N) kx n (I (donS S x - donS S 0)) (I x) M) Q
  | 0, n + 1, x, M, hx, hn, hr, k => by
    rw [sd_X9_pass_L39]
    unfold d_X9_pass_L39_body
    have : x = N := by omega
    subst this
    rw [if_pos (by rw [I_le (by unfold sm; omega) (by unfold sm; omega)]; omega)]
    exact k M hr (fun _ _ => rfl)
  | d + 1, n + 1, x, M, hx, hn, hr, k => by
    have h0 := (si_n hi).1
    have hl := (si_n hi).2.2.2.2.2.2
    rw [sd_X9_pass_L39]
    unfold d_X9_pass_L39_body
    rw [if_neg (by rw [I_le (by unfold sm; omega) (by unfold sm; omega)]; omega), wq_bd]
    have := aTick_spec hi (t := S 0 + x) (z := S 8 + (W.length - (pasW S W x).length : Int)) (by omega) (run_FI (ok_plain hi) x) (fun y hy => run_out hy x) (by have := pasW_len S W x; omega) (fun w hw => wi_b hi w (pasW_sub S W x w hw)) hr
    refine wp_mono this (fun r M2 q => ?_)
    obtain ⟨q1, q2, q3⟩ := q
    have et : tickS S (rl S (-1) false) (S 0 + x + 1) (runS S (rl S (-1) false) x) = runS S (rl S (-1) false) (x + 1) := rfl
    rw [et] at q1 q2
    rw [show S 0 + (x : Int) + 1 = S 0 + ((x + 1 : Nat) : Int) by omega, pasW_s S W x] at q2
    have ez : S 8 + (W.length - (pasW S W x).length : Int) + (((pasW S W x).filter (fun w => !qW (S 0 + ((x + 1 : Nat) : Int)) w)).length : Nat) = S 8 + (W.length - (pasW S W (x + 1)).length : Int) := by
      have := flen (qW (S 0 + ((x + 1 : Nat) : Int))) (pasW S W x)
      rw [pasW_s S W x] at this
      omega
    rw [ez] at q2
    rw [q1, wq_bnd, wq_bnd, I_add, show (1 : Int32) = I 1 from rfl, I_add, I_succ]
    have ea : donS S x - donS S 0 + ((dnF (rl S (-1) false) (runS S (rl S (-1) false) (x + 1)) : Int) - (dnF (rl S (-1) false) (runS S (rl S (-1) false) x) : Int)) = donS S (x + 1) - donS S 0 := by
      unfold donS
      omega
    rw [ea]
    exact rpas_L hi hN d n (x + 1) M2 (by omega) (by omega) q2 (fun M1 y1 y2 => k M1 y1 (fun i hi => (y2 i hi).trans (q3 i hi)))
  | _, 0, _, _, _, hn, _, _ => absurd hn (by omega)
theorem don_0 {S : Nat → Int} {W : List Wi} (hi : SInv (S, W)) : donS S 0 = 0 := by
  have hs := ok_plain hi
  unfold donS dnF runS
  dsimp only
  rw [List.countP_eq_zero.mpr (fun b hb => ?_)]
  · rfl
  · have := (hs.2.2.2.2.2.2.1 b hb).2.2.2.2.2
    rw [decide_eq_true_iff]
    omega
/-! pass: the class, and the state behind it -/
def ovR (S : Nat → Int) (F : Fc) (l : List Nat) (i : Nat) : Int :=
  if (42 ≤ i ∧ i < 342 ∧ (i - 42) % 5 = 3 ∧ (i - 42) / 5 ∈ l) then (F.2.2 ((i - 42) / 5)).1
  else if (42 ≤ i ∧ i < 342 ∧ (i - 42) % 5 = 4 ∧ (i - 42) / 5 ∈ l) then (F.2.2 ((i - 42) / 5)).2.2.2
  else S i
theorem ovR_nil (S : Nat → Int) (F : Fc) : ovR S F [] = S := by
  funext i
  unfold ovR
  rw [if_neg (fun h => by cases h.2.2.2), if_neg (fun h => by cases h.2.2.2)]
theorem ovR_add {S : Nat → Int} {F : Fc} {l : List Nat} {b : Nat} (hb : b < 60) (hl : b ∉ l) : setS (setS (ovR S F l) (45 + 5 * b) (F.2.2 b).1) (46 + 5 * b) (F.2.2 b).2.2.2 = ovR S F (l ++ [b]) := by
  funext i
  by_cases c4 : i = 46 + 5 * b
  · subst c4
    rw [setS_s]
    unfold ovR
    have e : (46 + 5 * b - 42) / 5 = b := by omega
    rw [if_neg (by omega), if_pos ⟨by omega, by omega, by omega, by rw [e]; exact List.mem_append_right _ (List.mem_singleton.mpr rfl)⟩, e]
  · rw [setS_n c4]
    by_cases c3 : i = 45 + 5 * b
    · subst c3
      rw [setS_s]
      unfold ovR
      have e : (45 + 5 * b - 42) / 5 = b := by omega
      rw [if_pos ⟨by omega, by omega, by omega, by rw [e]; exact List.mem_append_right _ (List.mem_singleton.mpr rfl)⟩, e]
    · rw [setS_n c3]
      unfold ovR
      have m : ∀ a, (a = 3 ∨ a = 4) → ((42 ≤ i ∧ i < 342 ∧ (i - 42) % 5 = a ∧ (i - 42) / 5 ∈ l) ↔ (42 ≤ i ∧ i < 342 ∧ (i - 42) % 5 = a ∧ (i - 42) / 5 ∈ l ++ [b])) := by
        intro a ha
        constructor
        · exact fun h => ⟨h.1, h.2.1, h.2.2.1, List.mem_append_left _ h.2.2.2⟩
        · rintro ⟨h1, h2, h3, h4⟩
          refine ⟨h1, h2, h3, ?_⟩
          rcases List.mem_append.mp h4 with h | h
          · exact h
          · have := List.mem_singleton.mp h
            omega
      by_cases d3 : 42 ≤ i ∧ i < 342 ∧ (i - 42) % 5 = 3 ∧ (i - 42) / 5 ∈ l
      · rw [if_pos d3, if_pos ((m 3 (Or.inl rfl)).mp d3)]
      · rw [if_neg d3, if_neg (fun h => d3 ((m 3 (Or.inl rfl)).mpr h))]
        by_cases d4 : 42 ≤ i ∧ i < 342 ∧ (i - 42) % 5 = 4 ∧ (i - 42) / 5 ∈ l
        · rw [if_pos d4, if_pos ((m 4 (Or.inr rfl)).mp d4)]
        · rw [if_neg d4, if_neg (fun h => d4 ((m 4 (Or.inr rfl)).mpr h))]
theorem ovR_n {S : Nat → Int} {F : Fc} {l : List Nat} {i : Nat} (h : i < 42) : ovR S F l i = S i := by
  unfold ovR
  rw [if_neg (by omega), if_neg (by omega)]
theorem to_L {S : Nat → Int} {W : List Wi} (hi : SInv (S, W)) {N : Nat} {kx : Int32 → Mem → Ans} {Q : Int32 → Mem → Prop} : ∀ (d n x : Nat) (M : Mem) (a : Int), x + d = (rl S (-1) false).length → d < n → crN 0 M S (rl S (-1) false) N → cv 0 M (ovR S (runS S (rl S (-1) false) N) ((rl S (-1) false).take x), W) → (∀ M1, crN 0 M1 S (rl S (-1) false) N → cv 0 M1 (ovR S (runS S (rl S (-1) false) N) (rl S (-1) false), W) → (∀ i, 16 ≤ i → M1 i = M i) → wp (kx (I (a + (((rl S (-1) false).drop x).countP (fun b => decide (((runS S (rl S (-1) false) N).2.2 b).1 = 2)) : Nat))) M1) Q) → wp (d_X8_takeOver_L4 0 kx n (I a) (I x) M) Q
  | 0, n + 1, x, M, a, hx, hn, hC, hc, k => by
    have h6 := hC.1.2.2.2.2.2.2.1
    have hlen := (ok_plain hi).2.2.2.2.2.2.2.2
    rw [sd_X8_takeOver_L4]
    unfold d_X8_takeOver_L4_body
    rw [h6, if_pos (by rw [I_le (by unfold sm; omega) (by unfold sm; omega)]; omega)]
    rw [List.take_of_length_le (by omega)] at hc
    have := k M hC hc (fun _ _ => rfl)
    rw [List.drop_eq_nil_of_le (by omega)] at this
    rw [show a + (([].countP (fun b => decide (((runS S (rl S (-1) false) N).2.2 b).1 = 2)) : Nat) : Int) = a by simp] at this
    exact this
  | d + 1, n + 1, x, M, a, hx, hn, hC, hc, k => by
    have h6 := hC.1.2.2.2.2.2.2.1
    have hs := ok_plain hi
    have hlen := hs.2.2.2.2.2.2.2.2
    have hnd := hs.2.2.2.2.2.2.2.1
    have h5 := (si_n hi).2.2.2.2.2.1
    have hget : (rl S (-1) false)[x]? = some (rl S (-1) false)[x] := List.getElem?_eq_getElem (by omega)
    have hm : (rl S (-1) false)[x] ∈ rl S (-1) false := List.mem_of_getElem? hget
    have edrop : (rl S (-1) false).drop x = (rl S (-1) false)[x] :: (rl S (-1) false).drop (x + 1) := List.drop_eq_getElem_cons (by omega)
    have etake : (rl S (-1) false).take (x + 1) = (rl S (-1) false).take x ++ [(rl S (-1) false)[x]] := List.take_succ_eq_append_getElem (by omega)
    have hni : (rl S (-1) false)[x] ∉ (rl S (-1) false).take x := fun hh => by
      obtain ⟨y, hy, e⟩ := List.getElem_of_mem hh
      rw [List.length_take] at hy
      rw [List.getElem_take] at e
      have := (List.getElem_inj (h₀ := by omega) (h₁ := by omega) hnd).mp e
      omega
    have hb5 : (((rl S (-1) false)[x] : Nat) : Int) < S 5 := by
      rcases rl_mem.mp hm with hh | hh
      · exact hh.1
      · exact absurd hh.1 (by decide)
    have hce := ((run_FI hs N).2 _ hm).1
    obtain ⟨⟨r1, -⟩, r2, r3, -⟩ := hC.2 x _ hget
    generalize (rl S (-1) false)[x] = b at *
    have enm : nmS S b = b := by unfold nmS; rw [if_neg (by omega)]
    rw [enm] at r1
    have e5 := (cv_n hc).2.2.2.2.2.2.2.2.1
    rw [ovR_n (by decide)] at e5
    have hhas : d_X0_has 0 (I (b : Int)) M = some ((if 0 ≤ (b : Int) ∧ (b : Int) < S 5 then 1 else 0), M) := by
      rw [s_has0, e5]
      simp (disch := first | omega | (unfold sm; omega)) only [wq_bd, wq_some, wq_bnd, wq_ite, bnd_e, bd_some, lit_, neg_I, I_lt, I_le, I_eq, I_add, I_sub, I_mul, I_clamp, chk_I, wchk_I, I_succ, Int.toNat_natCast, Int.reduceToNat, b01, b01I, bd_ite, if_true, if_false, ite_self, reduceIte, Int.reduceLE, Int.reduceLT, Int.reduceAdd, Int.reduceSub, Int.reduceNeg, Nat.reduceEqDiff, Nat.reduceAdd]
    rw [edrop, List.countP_cons] at k
    rw [sd_X8_takeOver_L4]
    unfold d_X8_takeOver_L4_body
    simp only [lit_, neg_I]
    rw [h6, if_neg (by rw [I_le (by unfold sm; omega) (by unfold sm; omega)]; omega), wchk_I (by omega) (by omega) (by omega), wq_bnd, I_clamp (by unfold sm; omega), Int.toNat_natCast, r1]
    refine gd_t hhas ⟨by omega, hb5⟩ ?_
    rw [wchk_I (by omega) (by omega) (by omega), wchk_I (by omega) (by omega) (by omega), wq_bnd, wchk_I (by omega) (by omega) (by omega), wchk_I (by omega) (by omega) (by omega), wq_bnd, I_clamp (by unfold sm; omega), Int.toNat_natCast, r2]
    rw [show (mup M (sI 0 10) b (I ((runS S (rl S (-1) false) N).2.2 b).1)) (cI 0 3) x = I ((runS S (rl S (-1) false) N).2.2 b).2.2.2 from by rw [mup_n (by decide)]; exact r3]
    have hc1 := (cv_setb hc (b := b) (by omega) ((runS S (rl S (-1) false) N).2.2 b).1).2.2.2.1
    have hc2 := (cv_setb hc1 (b := b) (by omega) ((runS S (rl S (-1) false) N).2.2 b).2.2.2).2.2.2.2
    rw [ovR_add (by omega) hni, ← etake] at hc2
    generalize hM2 : (mup (mup M (sI 0 10) b (I ((runS S (rl S (-1) false) N).2.2 b).1)) (sI 0 11) b (I ((runS S (rl S (-1) false) N).2.2 b).2.2.2)) = M2 at hc2 ⊢
    have f2 : ∀ i, 16 ≤ i → M2 i = M i := fun i hi => by rw [← hM2, mup_n (by unfold sI; omega), mup_n (by unfold sI; omega)]
    have hC2 : crN 0 M2 S (rl S (-1) false) N := by
      obtain ⟨c1, c2⟩ := hC
      refine ⟨?_, fun r y hr => rowC_congr (c2 r y hr) (fun j h1 h2 => by rw [f2 _ (by unfold cI; omega)])⟩
      rw [f2 _ (by decide)]
      exact c1
    unfold d_X8_takeOver_B73 d_X8_takeOver_B86
    simp only [lit_, neg_I]
    rw [wchk_I (by omega) (by omega) (by omega), I_clamp (by unfold sm; omega), Int.toNat_natCast, show M2 (cI 0 2) x = I ((runS S (rl S (-1) false) N).2.2 b).1 from by rw [f2 _ (by decide)]; exact r2]
    by_cases c : ((runS S (rl S (-1) false) N).2.2 b).1 = 2
    · refine wif_t c ?_
      rw [if_pos (decide_eq_true c)] at k
      rw [wq_bnd, wq_bnd, I_add, I_add, I_succ]
      refine to_L hi d n (x + 1) M2 (a + 1) (by omega) (by omega) hC2 hc2 (fun M1 y1 y2 y3 => ?_)
      have := k M1 y1 y2 (fun i hi => (y3 i hi).trans (f2 i hi))
      rw [show a + 1 + ((((rl S (-1) false).drop (x + 1)).countP (fun b => decide (((runS S (rl S (-1) false) N).2.2 b).1 = 2)) : Nat) : Int) = a + ((((rl S (-1) false).drop (x + 1)).countP (fun b => decide (((runS S (rl S (-1) false) N).2.2 b).1 = 2)) + 1 : Nat) : Int) by omega]
      exact this
    · refine wif_f (by omega) (by omega) c ?_
      rw [if_neg (show ¬ decide (((runS S (rl S (-1) false) N).2.2 b).1 = 2) = true by rw [decide_eq_false c]; decide)] at k
      rw [wq_bnd, I_add, I_succ]
      exact to_L hi d n (x + 1) M2 a (by omega) (by omega) hC2 hc2 (fun M1 y1 y2 y3 => k M1 y1 y2 (fun i hi => (y3 i hi).trans (f2 i hi)))
  | _, 0, _, _, _, _, hn, _, _, _ => absurd hn (by omega)
theorem ov_all {S : Nat → Int} {t z : Int} {F : Fc} (h5 : S 5 ≤ 60) (ho : ∀ y, y ∉ rl S (-1) false → F.2.2 y = D0 S y) : setS (setS (setS (setS (ovR S F (rl S (-1) false)) 0 t) 1 F.1) 9 (S 9 + F.2.1)) 8 z = ovS S t z F := by
  funext i
  by_cases c8 : i = 8
  · subst c8; rw [setS_s]; rfl
  · rw [setS_n c8]
    by_cases c9 : i = 9
    · subst c9; rw [setS_s]; rfl
    · rw [setS_n c9]
      by_cases c1 : i = 1
      · subst c1; rw [setS_s]; rfl
      · rw [setS_n c1]
        by_cases c0 : i = 0
        · subst c0; rw [setS_s]; rfl
        · rw [setS_n c0]
          unfold ovS ovR
          rw [if_neg c0, if_neg c1, if_neg c8, if_neg c9]
          by_cases m : (i - 42) / 5 ∈ rl S (-1) false
          · have hb5 : (((i - 42) / 5 : Nat) : Int) < S 5 := by
              rcases rl_mem.mp m with hh | hh
              · exact hh.1
              · exact absurd hh.1 (by decide)
            by_cases d3 : 42 ≤ i ∧ i < 342 ∧ (i - 42) % 5 = 3
            · rw [if_pos ⟨d3.1, d3.2.1, d3.2.2, m⟩, if_pos ⟨d3.1, d3.2.1, d3.2.2, hb5⟩]
            · have q3 : ¬ (42 ≤ i ∧ i < 342 ∧ (i - 42) % 5 = 3 ∧ (i - 42) / 5 ∈ rl S (-1) false) := fun h => d3 ⟨h.1, h.2.1, h.2.2.1⟩
              have q3' : ¬ (42 ≤ i ∧ i < 342 ∧ (i - 42) % 5 = 3 ∧ (((i - 42) / 5 : Nat) : Int) < S 5) := fun h => d3 ⟨h.1, h.2.1, h.2.2.1⟩
              rw [if_neg q3, if_neg q3']
              by_cases d4 : 42 ≤ i ∧ i < 342 ∧ (i - 42) % 5 = 4
              · rw [if_pos ⟨d4.1, d4.2.1, d4.2.2, m⟩, if_pos ⟨d4.1, d4.2.1, d4.2.2, hb5⟩]
              · have q4 : ¬ (42 ≤ i ∧ i < 342 ∧ (i - 42) % 5 = 4 ∧ (i - 42) / 5 ∈ rl S (-1) false) := fun h => d4 ⟨h.1, h.2.1, h.2.2.1⟩
                have q4' : ¬ (42 ≤ i ∧ i < 342 ∧ (i - 42) % 5 = 4 ∧ (((i - 42) / 5 : Nat) : Int) < S 5) := fun h => d4 ⟨h.1, h.2.1, h.2.2.1⟩
                rw [if_neg q4, if_neg q4']
          · rw [if_neg (fun h => m h.2.2.2), if_neg (fun h => m h.2.2.2), ho _ m]
            by_cases d3 : 42 ≤ i ∧ i < 342 ∧ (i - 42) % 5 = 3 ∧ (((i - 42) / 5 : Nat) : Int) < S 5
            · rw [if_pos d3]
              unfold D0
              rw [if_pos d3.2.2.2]
              dsimp only
              congr 1
              omega
            · rw [if_neg d3]
              by_cases d4 : 42 ≤ i ∧ i < 342 ∧ (i - 42) % 5 = 4 ∧ (((i - 42) / 5 : Nat) : Int) < S 5
              · rw [if_pos d4]
                unfold D0
                rw [if_pos d4.2.2.2]
                dsimp only
                congr 1
                omega
              · rw [if_neg d4]
/-! the state behind the ticks is a good one -/
def TI (S : Nat → Int) (t : Int) (b : Nat) (c : Ce) : Prop := (c.1 = 0 → t < S (44 + 5 * b)) ∧ (c.1 = 1 → S (44 + 5 * b) ≤ t ∧ t < S (44 + 5 * b) + S (12 + 4 * rcN S b) - 1)
theorem fold_at {S : Nat → Int} {t : Int} {b : Nat} : ∀ (l : List Nat) (F : Fc), l.Nodup → b ∈ l → ∃ F', (l.foldl (askS S t) F).2.2 b = (askS S t F' b).2.2 b ∧ F'.2.2 b = F.2.2 b
  | [], _, _, hb => by cases hb
  | x :: l, F, hn, hb => by
    have hn2 := List.nodup_cons.mp hn
    rw [List.foldl_cons]
    by_cases e : b = x
    · subst e
      exact ⟨F, fold_out l _ hn2.1, rfl⟩
    · have hbl : b ∈ l := by
        rcases List.mem_cons.mp hb with h | h
        · exact absurd h e
        · exact h
      obtain ⟨F', h1, h2⟩ := fold_at (t := t) l (askS S t F x) hn2.2 hbl
      refine ⟨F', h1, h2.trans ?_⟩
      unfold askS
      split
      · exact setC_n e
      · rfl
theorem run_TI {S : Nat → Int} {W : List Wi} (hi : SInv (S, W)) {b : Nat} (hb : b ∈ rl S (-1) false) : ∀ n : Nat, TI S (S 0 + n) b ((runS S (rl S (-1) false) n).2.2 b)
  | 0 => by
    have hb5 : (b : Int) < S 5 ∧ S (45 + 5 * b) ≤ 1 := by
      rcases rl_mem.mp hb with hh | hh
      · exact ⟨hh.1, hh.2.1⟩
      · exact absurd hh.1 (by decide)
    obtain ⟨b1, b2, b3, b4, b5, b6⟩ := si_b hi hb5.1
    have e43 : (S (43 + 5 * b)).toNat = rcN S b := rfl
    rw [e43] at b6
    have eD : (runS S (rl S (-1) false) 0).2.2 b = (S (45 + 5 * b), 0, 99999, S (46 + 5 * b)) := by
      show D0 S b = _
      unfold D0
      rw [if_pos hb5.1]
    rw [eD]
    unfold TI
    dsimp only
    refine ⟨fun h => by have := b5 h; omega, fun h => by have := b6 h; omega⟩
  | n + 1 => by
    have hs := ok_plain hi
    have ih := run_TI hi hb n
    have hce := (run_FI hs n).2 b hb
    obtain ⟨-, -, -, hr, -, -⟩ := hs.2.2.2.2.2.2.1 b hb
    unfold rcOk at hr
    obtain ⟨F', h1, h2⟩ := fold_at (S := S) (t := S 0 + n + 1) (b := b) (rl S (-1) false) (min (S 2) ((runS S (rl S (-1) false) n).1 + S 3), (runS S (rl S (-1) false) n).2) hs.2.2.2.2.2.2.2.1 hb
    have h1' : (runS S (rl S (-1) false) (n + 1)).2.2 b = (askS S (S 0 + n + 1) F' b).2.2 b := h1
    have h2' : F'.2.2 b = (runS S (rl S (-1) false) n).2.2 b := h2
    rw [h1', show S 0 + ((n + 1 : Nat) : Int) = S 0 + n + 1 by omega]
    unfold TI at ih ⊢
    unfold ceOk at hce
    unfold askS
    by_cases c : askP S (S 0 + n + 1) F'.2.2 b
    · rw [if_pos c]
      dsimp only
      rw [setC_s]
      obtain ⟨c1, c2, c3⟩ := c
      unfold askC
      split
      · dsimp only
        exact ⟨fun h => absurd h (by decide), fun h => absurd h (by decide)⟩
      · dsimp only
        by_cases k : S 0 + n + 1 = S (44 + 5 * b) + S (12 + 4 * rcN S b) - 1
        · rw [if_pos k]
          exact ⟨fun h => absurd h (by decide), fun h => absurd h (by decide)⟩
        · rw [if_neg k]
          exact ⟨fun h => absurd h (by decide), fun _ => by omega⟩
    · rw [if_neg c, h2']
      have c' : ¬ (((runS S (rl S (-1) false) n).2.2 b).1 ≤ 1 ∧ S (44 + 5 * b) ≤ S 0 + n + 1 ∧ S 0 + n + 1 ≤ S (44 + 5 * b) + S (12 + 4 * rcN S b) - 1) := by
        rw [← h2']
        exact c
      refine ⟨fun h => ?_, fun h => ?_⟩
      · have := ih.1 h
        omega
      · have := ih.2 h
        omega
theorem fold_p {S : Nat → Int} {ps : List Nat} (hs : ScOk S ps) {t : Int} (ht : 1 ≤ t) : ∀ (l : List Nat) (F : Fc), (∀ b ∈ l, b ∈ ps) → FI S ps t F → (l.foldl (askS S t) F).1 ≤ F.1
  | [], F, _, _ => Int.le_refl _
  | b :: l, F, hl, hF => by
    rw [List.foldl_cons]
    have hb := hl b List.mem_cons_self
    have h1 := fold_p hs ht l (askS S t F b) (fun x hx => hl x (List.mem_cons_of_mem _ hx)) (ask_FI hs ht hF hb)
    obtain ⟨-, -, -, hr, -, -⟩ := hs.2.2.2.2.2.2.1 b hb
    unfold rcOk at hr
    have hp := hF.1
    have h2 : (askS S t F b).1 ≤ F.1 := by
      unfold askS
      split
      · dsimp only
        unfold askT
        split <;> omega
      · exact Int.le_refl _
    omega
theorem run_p {S : Nat → Int} {ps : List Nat} (hs : ScOk S ps) : ∀ n : Nat, 0 ≤ (runS S ps n).1 ∧ (runS S ps n).1 ≤ S 2
  | 0 => by
    have := hs.2.1
    unfold runS
    exact this
  | n + 1 => by
    have hF := run_FI hs n
    have h1 := fold_p hs (t := S 0 + n + 1) (by have := hs.1; omega) ps _ (fun b hb => hb) (FI_up hs hF)
    have h2 := (run_FI hs (n + 1)).1
    have h3 : (runS S ps (n + 1)).1 = (ps.foldl (askS S (S 0 + n + 1)) (min (S 2) ((runS S ps n).1 + S 3), (runS S ps n).2)).1 := rfl
    dsimp only at h1
    omega
theorem pas_SI {S : Nat → Int} {W : List Wi} (hi : SInv (S, W)) {n : Nat} (hn : S 0 + n ≤ 9000) : SInv (pasS S W n) := by
  have hs := ok_plain hi
  obtain ⟨g0, g1, g2, g3, g4, g5, gl⟩ := si_n hi
  have hp := run_p hs n
  refine ⟨?_, ?_, ?_, ?_, ?_, ?_, ?_, fun r hr => ?_, fun b hb => ?_, fun w hw => ?_⟩
  · show 0 ≤ S 0 + (n : Int) ∧ S 0 + (n : Int) ≤ 9000
    omega
  · show 0 ≤ (runS S (rl S (-1) false) n).1 ∧ (runS S (rl S (-1) false) n).1 ≤ S 2
    exact hp
  · exact g2
  · exact g3
  · exact g4
  · exact g5
  · have := pasW_len S W n
    show (pasW S W n).length ≤ 8
    omega
  · have hr' : (r : Int) < S 4 := hr
    have := si_r hi hr'
    show rcOk (ovS S _ _ _) r
    unfold rcOk at this ⊢
    rw [ov_n (by omega), ov_n (by omega), ov_n (by omega), ov_n (by omega)]
    exact this
  · have hb' : (b : Int) < S 5 := hb
    obtain ⟨b1, b2, b3, b4, b5, b6⟩ := si_b hi hb'
    have hrc := rcN_l hi hb'
    show bkOk (ovS S (S 0 + n) (S 8 + (W.length - (pasW S W n).length : Int)) (runS S (rl S (-1) false) n)) b
    unfold bkOk
    rw [show 42 + 5 * b = 42 + 0 + 5 * b by omega, ov_b (by decide), show 43 + 5 * b = 42 + 1 + 5 * b by omega, ov_b (by decide), show 44 + 5 * b = 42 + 2 + 5 * b by omega, ov_b (by decide), ov_3 hb' (by omega), show ovS S (S 0 + n) (S 8 + (W.length - (pasW S W n).length : Int)) (runS S (rl S (-1) false) n) 0 = S 0 + n from rfl, show ovS S (S 0 + n) (S 8 + (W.length - (pasW S W n).length : Int)) (runS S (rl S (-1) false) n) 4 = S 4 from rfl, show 42 + 1 + 5 * b = 43 + 5 * b by omega, show 42 + 0 + 5 * b = 42 + 5 * b by omega, show 42 + 2 + 5 * b = 44 + 5 * b by omega, show (S (43 + 5 * b)).toNat = rcN S b from rfl, ov_n (by omega)]
    by_cases c : b ∈ rl S (-1) false
    · have hT := run_TI hi c n
      have hce := ((run_FI hs n).2 b c).1
      unfold TI at hT
      exact ⟨b1, b2, by omega, by omega, hT.1, hT.2⟩
    · have e : ((runS S (rl S (-1) false) n).2.2 b).1 = S (45 + 5 * b) := by
        rw [run_out c n]
        unfold D0
        rw [if_pos hb']
      have h2 : 1 < S (45 + 5 * b) := by
        by_cases z : S (45 + 5 * b) ≤ 1
        · exact absurd (rl_mem.mpr (Or.inl ⟨hb', z, by omega⟩)) c
        · omega
      rw [e]
      exact ⟨b1, b2, by omega, b4, fun h => absurd h (by omega), fun h => absurd h (by omega)⟩
  · have := wi_ok hi (pasW_sub S W n w hw)
    show wiOk (ovS S (S 0 + n) _ _) w
    unfold wiOk
    rw [show ∀ z F, ovS S (S 0 + n) z F 0 = S 0 + n from fun _ _ => rfl, show ∀ z F, ovS S (S 0 + n) z F 4 = S 4 from fun _ _ => rfl]
    omega
theorem b_pass (p : Int32) : Both (d_X8_pass p) (d_X9_pass p) := by
  obtain ⟨a, ha, rfl⟩ := of_I p
  intro A hA
  obtain ⟨⟨S, W⟩, l, o, T⟩ := A
  have hi : SInv (S, W) := hA.1
  have hs := ok_plain hi
  obtain ⟨h0, h1, h2, h3, h4, h5, hl⟩ := si_n hi
  by_cases c : 1 ≤ a ∧ a ≤ 200
  · obtain ⟨N, rfl⟩ : ∃ q : Nat, a = (q + 1 : Nat) := ⟨a.toNat - 1, by omega⟩
    by_cases c2 : S 0 + ((N + 1 : Nat) : Int) ≤ 9000
    · refine ⟨I (donS S (N + 1)), (pasS S W (N + 1), pushH l (S, W), o, T), AInv_push hA (pas_SI hi c2), fun M h => ?_, fun M h => ?_⟩
      · have e0 := (cv_n h.1).1
        unfold d_X8_pass
        simp only [lit_, neg_I]
        refine gd_t (within_I ha (by omega) (by omega) M) c ?_
        rw [e0, I_add, if_pos (by rw [I_le (by unfold sm; omega) (by unfold sm; omega)]; exact c2), wq_bd]
        refine cpush hA h (fun x M1 k => ?_)
        rw [wq_bd]
        refine wp_mono (beg_plain hi k.1) (fun x M2 q => ?_)
        rw [wq_bd]
        refine wp_mono (cticks_spec hs (by omega) q.1) (fun x M3 z => ?_)
        have hq3 : cqf M1 M3 := cqf_t q.2 (fun i hi => z.2 i (by omega))
        have h3 := cqf_S hq3 k
        rw [wq_bd]
        unfold d_X8_takeOver
        rw [show (0 : Int32) = I ((0 : Nat) : Int) from rfl]
        have hc3 : cv 0 M3 (ovR S (runS S (rl S (-1) false) (N + 1)) ((rl S (-1) false).take 0), W) := by
          rw [List.take_zero, ovR_nil]
          exact h3.1
        refine to_L hi _ fuelN 0 M3 ((0 : Nat) : Int) (Nat.zero_add _) (by unfold fuelN; have := hs.2.2.2.2.2.2.2.2; omega) z.1 hc3 (fun M4 y1 y2 y3 => ?_)
        obtain ⟨⟨n0, n1, n2, n3, n4, n5, n6, n7⟩, -⟩ := y1
        have o9 := (cv_n y2).2.2.2.2.2.2.1
        have o8 := (cv_n y2).2.2.2.2.2.1
        rw [ovR_n (by decide)] at o9 o8
        have t1 := (cv_set1 y2 (S 0 + ((N + 1 : Nat) : Int))).1
        have t2 := (cv_set1 t1 (runS S (rl S (-1) false) (N + 1)).1).2.1
        have t3 := (cv_set1 t2 (S 9 + (runS S (rl S (-1) false) (N + 1)).2.1)).2.2.2.2.2.2.1
        rw [n0, wq_bnd, show (mup M4 (sI 0 0) 0 (I (S 0 + ((N + 1 : Nat) : Int)))) (cI 0 0) 1 = I (runS S (rl S (-1) false) (N + 1)).1 from by rw [mup_n (by decide)]; exact n1, wq_bnd]
        rw [show (mup (mup M4 (sI 0 0) 0 (I (S 0 + ((N + 1 : Nat) : Int)))) (sI 0 0) 1 (I (runS S (rl S (-1) false) (N + 1)).1)) (sI 0 0) 6 = I (S 9) from by rw [mup_s, upd_n (by decide), mup_s, upd_n (by decide)]; exact o9, show (mup (mup M4 (sI 0 0) 0 (I (S 0 + ((N + 1 : Nat) : Int)))) (sI 0 0) 1 (I (runS S (rl S (-1) false) (N + 1)).1)) (cI 0 0) 5 = I (runS S (rl S (-1) false) (N + 1)).2.1 from by rw [mup_n (by decide), mup_n (by decide)]; exact n5, I_add, wq_bnd]
        generalize hM12 : mup (mup (mup M4 (sI 0 0) 0 (I (S 0 + ((N + 1 : Nat) : Int)))) (sI 0 0) 1 (I (runS S (rl S (-1) false) (N + 1)).1)) (sI 0 0) 6 (I (S 9 + (runS S (rl S (-1) false) (N + 1)).2.1)) = M12 at t3 ⊢
        have e12 := (cv_n t3).1
        rw [setS_n (by decide), setS_n (by decide), setS_s] at e12
        have e12' := (cv_n t3).2.2.2.2.2.1
        rw [setS_n (by decide), setS_n (by decide), setS_n (by decide), ovR_n (by decide)] at e12'
        rw [e12, e12', wq_bd]
        refine wp_mono (dropU_spec (tk := S 0 + ((N + 1 : Nat) : Int)) (by omega) (cv_cc.mp t3).2 hl (wi_b hi)) (fun x M13 u => ?_)
        obtain ⟨u1, u2, u3⟩ := u
        have t4 := cv_w t3 u2 (fun j hj => u3 _ (by unfold sI; omega))
        rw [u1, I_add, wq_bnd, wq_some]
        have t5 := (cv_set1 t4 (S 8 + ((W.filter (fun w => !qW (S 0 + ((N + 1 : Nat) : Int)) w)).length : Nat))).2.2.2.2.2.1
        rw [ov_all h5.2 (fun y hy => run_out hy (N + 1))] at t5
        have ez : S 8 + ((W.filter (fun w => !qW (S 0 + ((N + 1 : Nat) : Int)) w)).length : Nat) = S 8 + (W.length - (pasW S W (N + 1)).length : Int) := by
          have := flen (qW (S 0 + ((N + 1 : Nat) : Int))) W
          have e : pasW S W (N + 1) = W.filter (qW (S 0 + ((N + 1 : Nat) : Int))) := rfl
          rw [e]
          omega
        rw [ez] at t5 ⊢
        have f12 : ∀ i, 16 ≤ i → M12 i = M3 i := fun i hi => by rw [← hM12, mup_n (by unfold sI; omega), mup_n (by unfold sI; omega), mup_n (by unfold sI; omega), y3 i hi]
        have fAll : ∀ i, 16 ≤ i → (mup M13 (sI 0 0) 5 (I (S 8 + (W.length - (pasW S W (N + 1)).length : Int)))) i = M3 i := fun i hi => by rw [mup_n (by unfold sI; omega), u3 i (by omega), f12 i hi]
        refine wp_some ⟨?_, CSt_upd h3 t5 (CHist_congr h3.2.1 (fun i hi => fAll i (by omega))) (fun i hi => fAll i (by omega))⟩
        rw [List.drop_zero]
        unfold donS dnF
        congr 1
        omega
      · have e0 := (rv_n h.1).1
        unfold d_X9_pass
        simp only [lit_, neg_I]
        refine gd_t (rin_I ha (by omega) (by omega) M) c ?_
        rw [wchk_I (by decide) (by decide) (by decide), I_clamp (by unfold sm; decide), show (0 : Int).toNat = 0 from rfl, e0, I_add, if_pos (by rw [I_le (by unfold sm; omega) (by unfold sm; omega)]; exact c2), wq_bd]
        refine rpush hA h (fun x M1 k k0 => ?_)
        have hr0 : rv (M1 144) (pasS S W 0) := by
          unfold pasS
          have e1 : S 8 + (W.length - (pasW S W 0).length : Int) = S 8 := by
            show S 8 + ((W.length : Int) - (W.length : Int)) = S 8
            omega
          rw [e1, show S 0 + ((0 : Nat) : Int) = S 0 by omega, ov_start h5.2]
          exact k.1
        have := rpas_L hi (N := N + 1) (by omega) (kx := fun v9 M10 => some (v9, M10)) (Q := fun y M2 => y = I (donS S (N + 1)) ∧ RSt M2 (pasS S W (N + 1), pushH l (S, W), o, T)) (N + 1) fuelN 0 M1 (by omega) (by unfold fuelN; omega) hr0 (fun M2 y1 y2 => by
          rw [wq_some, don_0 hi, Int.sub_zero]
          exact ⟨rfl, RSt_upd k y1 (RHist_congr k.2.1 (by rw [y2 143 (by decide)]) (y2 145 (by decide))) (fun j hj => by rw [y2 143 (by decide)]) (y2 146 (by decide)) (y2 153 (by decide))⟩)
        rw [show donS S 0 - donS S 0 = ((0 : Nat) : Int) by omega] at this
        exact this
    · refine ⟨I (-4), ((S, W), l, o, T), hA, fun M h => ?_, fun M h => ?_⟩
      · have e0 := (cv_n h.1).1
        unfold d_X8_pass
        simp only [lit_, neg_I]
        refine gd_t (within_I ha (by omega) (by omega) M) c ?_
        rw [e0, I_add, if_neg (by rw [I_le (by unfold sm; omega) (by unfold sm; omega)]; exact c2)]
        exact wp_some ⟨rfl, h⟩
      · have e0 := (rv_n h.1).1
        unfold d_X9_pass
        simp only [lit_, neg_I]
        refine gd_t (rin_I ha (by omega) (by omega) M) c ?_
        rw [wchk_I (by decide) (by decide) (by decide), I_clamp (by unfold sm; decide), show (0 : Int).toNat = 0 from rfl, e0, I_add, if_neg (by rw [I_le (by unfold sm; omega) (by unfold sm; omega)]; exact c2)]
        exact wp_some ⟨rfl, h⟩
  · refine ⟨I (-2), ((S, W), l, o, T), hA, fun M h => ?_, fun M h => ?_⟩
    · unfold d_X8_pass
      simp only [lit_, neg_I]
      exact gd_f (within_I ha (by omega) (by omega) M) c (wp_some ⟨rfl, h⟩)
    · unfold d_X9_pass
      simp only [lit_, neg_I]
      exact gd_f (rin_I ha (by omega) (by omega) M) c (wp_some ⟨rfl, h⟩)
