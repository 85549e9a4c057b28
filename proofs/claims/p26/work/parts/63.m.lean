/-! tools: literals, checks, conditions -/
theorem lit_ (n : Nat) : (no_index (OfNat.ofNat n) : Int32) = I ((no_index (OfNat.ofNat n) : Int)) := (Int32.ofInt_eq_ofNat (n := n)).symm
theorem neg_I (a : Int) : -(I a) = I (-a) := (Int32.ofInt_neg a).symm
theorem nI_I (n : Nat) : nI n = I (n : Int) := rfl
theorem I_succ (n : Nat) : I ((n : Int) + 1) = I ((n + 1 : Nat) : Int) := rfl
theorem bnd_e {α : Type} (a : α) (k : α → Ans) : bnd a k = k a := rfl
theorem chk_I {a : Int} {n : Nat} {o : Ans} (hs : a < 2147483648) (h0 : 0 ≤ a) (h1 : a.toNat < n) : chk (I a) n o = o := by
  unfold chk
  rw [if_neg]
  rw [show (0 : Int32) = I 0 from rfl, I_lt (by unfold sm; omega) (by unfold sm; omega), I_clamp (by unfold sm; omega)]
  omega
theorem wchk_I {a : Int} {n : Nat} {o : Ans} {Q : Int32 → Mem → Prop} (hs : a < 2147483648) (h0 : 0 ≤ a) (h1 : a.toNat < n) : wp (chk (I a) n o) Q = wp o Q := by rw [chk_I hs h0 h1]
theorem b01 {c : Prop} [Decidable c] : ((if c then (1 : Int32) else 0) = 0) = ¬ c := by
  by_cases h : c
  · rw [if_pos h]; exact propext ⟨fun e => absurd e (by decide), fun e => absurd h e⟩
  · rw [if_neg h]; exact propext ⟨fun _ => h, fun _ => rfl⟩
theorem b01I {c : Prop} [Decidable c] : ((if c then I 1 else I 0) = I 0) = ¬ c := b01
theorem bd_ite {c : Prop} [Decidable c] {a b : Ans} {k : Int32 → Mem → Ans} : bd (if c then a else b) k = if c then bd a k else bd b k := by
  by_cases h : c
  · rw [if_pos h, if_pos h]
  · rw [if_neg h, if_neg h]
theorem of_I (x : Int32) : ∃ a : Int, (-2147483648 ≤ a ∧ a < 2147483648) ∧ x = I a := ⟨x.toInt, sm_toInt x, (I_toInt x).symm⟩
theorem ite_I {c : Prop} [Decidable c] {a b : Int} : (if c then I a else I b) = I (if c then a else b) := by
  by_cases h : c
  · rw [if_pos h, if_pos h]
  · rw [if_neg h, if_neg h]
/-- the numbers of a state, as omega likes them -/
theorem si_r {S : Nat → Int} {W : List Wi} (h : SInv (S, W)) {r : Nat} (hr : (r : Int) < S 4) : rcOk S r := h.2.2.2.2.2.2.2.1 r hr
theorem si_b {S : Nat → Int} {W : List Wi} (h : SInv (S, W)) {b : Nat} (hb : (b : Int) < S 5) : bkOk S b := h.2.2.2.2.2.2.2.2.1 b hb
theorem si_n {S : Nat → Int} {W : List Wi} (h : SInv (S, W)) : (0 ≤ S 0 ∧ S 0 ≤ 9000) ∧ (0 ≤ S 1 ∧ S 1 ≤ S 2) ∧ (100 ≤ S 2 ∧ S 2 ≤ 3000) ∧ (0 ≤ S 3 ∧ S 3 ≤ 300) ∧ (0 ≤ S 4 ∧ S 4 ≤ 8) ∧ (0 ≤ S 5 ∧ S 5 ≤ 60) ∧ W.length ≤ 8 := ⟨h.1, h.2.1, h.2.2.1, h.2.2.2.1, h.2.2.2.2.1, h.2.2.2.2.2.1, h.2.2.2.2.2.2.1⟩
/-- the recipe's number of a booking -/
def rcN (S : Nat → Int) (b : Nat) : Nat := (S (43 + 5 * b)).toNat
theorem rcN_e {S : Nat → Int} {W : List Wi} (h : SInv (S, W)) {b : Nat} (hb : (b : Int) < S 5) : S (43 + 5 * b) = (rcN S b : Int) := by
  have := (si_b h hb).2.1.1
  unfold rcN
  omega
theorem rcN_l {S : Nat → Int} {W : List Wi} (h : SInv (S, W)) {b : Nat} (hb : (b : Int) < S 5) : (rcN S b : Int) < S 4 ∧ rcN S b < 8 := by
  have h1 := (si_b h hb).2.1
  have h2 := (si_n h).2.2.2.2.1
  have h3 := rcN_e h hb
  omega
def laS (S : Nat → Int) (r : Nat) (st : Int) : Int := st + S (12 + 4 * r) - 1
def lbS (S : Nat → Int) (r : Nat) (st : Int) : Int := st + S (12 + 4 * r) - 1 + S (13 + 4 * r)
theorem cv_n {k : Nat} {M : Mem} {S : Nat → Int} {W : List Wi} (h : cv k M (S, W)) : M (sI k 0) 0 = I (S 0) ∧ M (sI k 0) 1 = I (S 1) ∧ M (sI k 0) 2 = I (S 2) ∧ M (sI k 0) 3 = I (S 3) ∧ M (sI k 0) 4 = I (S 7) ∧ M (sI k 0) 5 = I (S 8) ∧ M (sI k 0) 6 = I (S 9) ∧ M (sI k 1) 0 = I (S 4) ∧ M (sI k 6) 0 = I (S 5) ∧ M (sI k 12) 0 = I W.length :=
  ⟨h.1.1, h.1.2.1, h.1.2.2.1, h.1.2.2.2.1, h.1.2.2.2.2.1, h.1.2.2.2.2.2.1, h.1.2.2.2.2.2.2, h.2.1.1, h.2.1.2.1, h.2.1.2.2⟩
theorem cv_r {k : Nat} {M : Mem} {S : Nat → Int} {W : List Wi} (h : cv k M (S, W)) {r : Nat} (hr : r < 8) : M (sI k 2) r = I (S (10 + 4 * r)) ∧ M (sI k 3) r = I (S (11 + 4 * r)) ∧ M (sI k 4) r = I (S (12 + 4 * r)) ∧ M (sI k 5) r = I (S (13 + 4 * r)) := h.2.2.1 r hr
theorem cv_b {k : Nat} {M : Mem} {S : Nat → Int} {W : List Wi} (h : cv k M (S, W)) {b : Nat} (hb : b < 60) : M (sI k 7) b = I (S (42 + 5 * b)) ∧ M (sI k 8) b = I (S (43 + 5 * b)) ∧ M (sI k 9) b = I (S (44 + 5 * b)) ∧ M (sI k 10) b = I (S (45 + 5 * b)) ∧ M (sI k 11) b = I (S (46 + 5 * b)) := h.2.2.2.1 b hb
theorem rv_c {f : Nat → Int32} {S : Nat → Int} {W : List Wi} (h : rv f (S, W)) {i : Nat} (hi : i < 342) (h6 : i ≠ 6) : f i = I (S i) := h.1 i hi h6
theorem rv_n {f : Nat → Int32} {S : Nat → Int} {W : List Wi} (h : rv f (S, W)) : f 0 = I (S 0) ∧ f 1 = I (S 1) ∧ f 2 = I (S 2) ∧ f 3 = I (S 3) ∧ f 4 = I (S 4) ∧ f 5 = I (S 5) ∧ f 6 = I W.length ∧ f 7 = I (S 7) ∧ f 8 = I (S 8) ∧ f 9 = I (S 9) :=
  ⟨rv_c h (by decide) (by decide), rv_c h (by decide) (by decide), rv_c h (by decide) (by decide), rv_c h (by decide) (by decide), rv_c h (by decide) (by decide), rv_c h (by decide) (by decide), h.2.1, rv_c h (by decide) (by decide), rv_c h (by decide) (by decide), rv_c h (by decide) (by decide)⟩
theorem rv_r {f : Nat → Int32} {S : Nat → Int} {W : List Wi} (h : rv f (S, W)) {r : Nat} (hr : r < 8) : f (10 + 4 * r) = I (S (10 + 4 * r)) ∧ f (11 + 4 * r) = I (S (11 + 4 * r)) ∧ f (12 + 4 * r) = I (S (12 + 4 * r)) ∧ f (13 + 4 * r) = I (S (13 + 4 * r)) := ⟨rv_c h (by omega) (by omega), rv_c h (by omega) (by omega), rv_c h (by omega) (by omega), rv_c h (by omega) (by omega)⟩
theorem rv_b {f : Nat → Int32} {S : Nat → Int} {W : List Wi} (h : rv f (S, W)) {b : Nat} (hb : b < 60) : f (42 + 5 * b) = I (S (42 + 5 * b)) ∧ f (43 + 5 * b) = I (S (43 + 5 * b)) ∧ f (44 + 5 * b) = I (S (44 + 5 * b)) ∧ f (45 + 5 * b) = I (S (45 + 5 * b)) ∧ f (46 + 5 * b) = I (S (46 + 5 * b)) := ⟨rv_c h (by omega) (by omega), rv_c h (by omega) (by omega), rv_c h (by omega) (by omega), rv_c h (by omega) (by omega), rv_c h (by omega) (by omega)⟩
/-! who keeps a robot busy -/
def kpP (S : Nat → Int) (ro f l bt : Int) (b : Nat) : Bool := decide ((b : Int) ≠ bt ∧ S (42 + 5 * b) = ro ∧ S (45 + 5 * b) ≤ 2 ∧ S (44 + 5 * b) ≤ l ∧ f ≤ lbS S (rcN S b) (S (44 + 5 * b)))
/-- a number found, or another -/
def oN (z : Int) (o : Option Nat) : Int := match o with | some b => b | none => z
def meetS (S : Nat → Int) (ro f l bt : Int) : Option Nat := (List.range' 0 (S 5).toNat).find? (kpP S ro f l bt)
theorem has0_I {M : Mem} {S : Nat → Int} {W : List Wi} (hc : cv 0 M (S, W)) (hi : SInv (S, W)) {a : Int} (ha : -2147483648 ≤ a ∧ a < 2147483648) : d_X0_has 0 (I a) M = some ((if 0 ≤ a ∧ a < S 5 then 1 else 0), M) := by
  have h1 := (cv_n hc).2.2.2.2.2.2.2.2.1
  have h2 := (si_n hi).2.2.2.2.2.1
  simp (disch := first | omega | (unfold sm; omega)) only [wq_bd, wq_some, wq_bnd, wq_ite, bnd_e, bd_some, lit_, neg_I, I_lt, I_le, I_eq, I_add, I_sub, I_mul, I_clamp, chk_I, wchk_I, I_succ, Int.toNat_natCast, Int.reduceToNat, b01, b01I, bd_ite, if_true, if_false, ite_self, reduceIte, Int.reduceLE, Int.reduceLT, Int.reduceAdd, Int.reduceSub, Int.reduceNeg, Nat.reduceEqDiff, Nat.reduceAdd, s_has0, h1]
theorem has4_I {M : Mem} {S : Nat → Int} {W : List Wi} (hc : cv 0 M (S, W)) (hi : SInv (S, W)) {a : Int} (ha : -2147483648 ≤ a ∧ a < 2147483648) : d_X4_has 0 (I a) M = some ((if 0 ≤ a ∧ a < S 4 then 1 else 0), M) := by
  have h1 := (cv_n hc).2.2.2.2.2.2.2.1
  have h2 := (si_n hi).2.2.2.2.1
  simp (disch := first | omega | (unfold sm; omega)) only [wq_bd, wq_some, wq_bnd, wq_ite, bnd_e, bd_some, lit_, neg_I, I_lt, I_le, I_eq, I_add, I_sub, I_mul, I_clamp, chk_I, wchk_I, I_succ, Int.toNat_natCast, Int.reduceToNat, b01, b01I, bd_ite, if_true, if_false, ite_self, reduceIte, Int.reduceLE, Int.reduceLT, Int.reduceAdd, Int.reduceSub, Int.reduceNeg, Nat.reduceEqDiff, Nat.reduceAdd, s_has4, h1]
theorem lastBusy_I {M : Mem} {S : Nat → Int} {W : List Wi} (hc : cv 0 M (S, W)) (hi : SInv (S, W)) {r : Nat} (hr : (r : Int) < S 4) (a : Int) : d_X4_lastBusy 0 (I r) (I a) M = some (I (lbS S r a), M) := by
  have h4 := (si_n hi).2.2.2.2.1
  obtain ⟨-, -, q2, q3⟩ := cv_r hc (r := r) (by omega)
  unfold d_X4_lastBusy
  rw [has4_I hc hi (by omega), if_pos (by omega), bd_some, if_neg (by decide)]
  simp (disch := first | omega | (unfold sm; omega)) only [wq_bd, wq_some, wq_bnd, wq_ite, bnd_e, bd_some, lit_, neg_I, I_lt, I_le, I_eq, I_add, I_sub, I_mul, I_clamp, chk_I, wchk_I, I_succ, Int.toNat_natCast, Int.reduceToNat, b01, b01I, bd_ite, if_true, if_false, ite_self, reduceIte, Int.reduceLE, Int.reduceLT, Int.reduceAdd, Int.reduceSub, Int.reduceNeg, Nat.reduceEqDiff, Nat.reduceAdd, q2, q3]
  rfl
theorem keepsBusy_I {M : Mem} {S : Nat → Int} {W : List Wi} (hc : cv 0 M (S, W)) (hi : SInv (S, W)) {b : Nat} (hb : (b : Int) < S 5) {ro : Int} (ha : -2147483648 ≤ ro ∧ ro < 2147483648) : d_X0_keepsBusy 0 (I b) (I ro) M = some ((if S (42 + 5 * b) = ro ∧ S (45 + 5 * b) ≤ 2 then 1 else 0), M) := by
  have h5 := (si_n hi).2.2.2.2.2.1
  obtain ⟨b1, b2, b3, b4, -, -⟩ := si_b hi hb
  obtain ⟨q0, q1, q2, q3, q4⟩ := cv_b hc (b := b) (by omega)
  unfold d_X0_keepsBusy
  rw [has0_I hc hi (by omega), if_pos (by omega), bd_some, if_neg (by decide)]
  simp (disch := first | omega | (unfold sm; omega)) only [wq_bd, wq_some, wq_bnd, wq_ite, bnd_e, bd_some, lit_, neg_I, I_lt, I_le, I_eq, I_add, I_sub, I_mul, I_clamp, chk_I, wchk_I, I_succ, Int.toNat_natCast, Int.reduceToNat, b01, b01I, bd_ite, if_true, if_false, ite_self, reduceIte, Int.reduceLE, Int.reduceLT, Int.reduceAdd, Int.reduceSub, Int.reduceNeg, Nat.reduceEqDiff, Nat.reduceAdd, q0, q1, q2, q3]
  by_cases c1 : S (42 + 5 * b) = ro
  · by_cases c2 : S (45 + 5 * b) ≤ 2
    · rw [if_pos c1, if_neg (by omega), if_neg (by omega), if_pos ⟨c1, c2⟩]
    · rw [if_pos c1]
      by_cases c3 : S (45 + 5 * b) = 3
      · rw [if_pos c3, if_neg (by omega)]
      · rw [if_neg c3, if_pos (by omega), if_neg (by omega)]
  · rw [if_neg c1, if_neg (by omega)]
theorem meet_L {M : Mem} {S : Nat → Int} {W : List Wi} (hc : cv 0 M (S, W)) (hi : SInv (S, W)) {ro f l bt : Int} (h1 : -2147483648 ≤ ro ∧ ro < 2147483648) (h2 : -2147483648 ≤ f ∧ f < 2147483648) (h3 : -2147483648 ≤ l ∧ l < 2147483648) (h4 : -2147483648 ≤ bt ∧ bt < 2147483648) {kx : Mem → Ans} : ∀ (d n x : Nat), (x : Int) + d = S 5 → d < n → d_X5_firstMeeting_L3 0 (I ro) (I f) (I l) (I bt) kx n (I x) M = (match (List.range' x d).find? (kpP S ro f l bt) with | some b => some (I b, M) | none => kx M)
  | 0, n + 1, x, hx, hn => by
    have h5 := (si_n hi).2.2.2.2.2.1
    have e5 := (cv_n hc).2.2.2.2.2.2.2.2.1
    rw [sd_X5_firstMeeting_L3]
    unfold d_X5_firstMeeting_L3_body
    simp (disch := first | omega | (unfold sm; omega)) only [wq_bd, wq_some, wq_bnd, wq_ite, bnd_e, bd_some, lit_, neg_I, I_lt, I_le, I_eq, I_add, I_sub, I_mul, I_clamp, chk_I, wchk_I, I_succ, Int.toNat_natCast, Int.reduceToNat, b01, b01I, bd_ite, if_true, if_false, ite_self, reduceIte, Int.reduceLE, Int.reduceLT, Int.reduceAdd, Int.reduceSub, Int.reduceNeg, Nat.reduceEqDiff, Nat.reduceAdd, e5]
    rw [if_pos (by omega)]
    rfl
  | d + 1, n + 1, x, hx, hn => by
    have h5 := (si_n hi).2.2.2.2.2.1
    have h0 := (si_n hi).1
    have e5 := (cv_n hc).2.2.2.2.2.2.2.2.1
    have hb : (x : Int) < S 5 := by omega
    obtain ⟨b1, b2, b3, b4, -, -⟩ := si_b hi hb
    obtain ⟨q0, q1, q2, q3, q4⟩ := cv_b hc (b := x) (by omega)
    rw [rcN_e hi hb] at q1
    have hr := rcN_l hi hb
    have hro := si_r hi hr.1
    unfold rcOk at hro
    have ih := meet_L hc hi h1 h2 h3 h4 (kx := kx) d n (x + 1) (by omega) (by omega)
    rw [sd_X5_firstMeeting_L3, List.range'_succ, List.find?_cons]
    unfold d_X5_firstMeeting_L3_body
    simp (disch := first | omega | (unfold sm; omega)) only [wq_bd, wq_some, wq_bnd, wq_ite, bnd_e, bd_some, lit_, neg_I, I_lt, I_le, I_eq, I_add, I_sub, I_mul, I_clamp, chk_I, wchk_I, I_succ, Int.toNat_natCast, Int.reduceToNat, b01, b01I, bd_ite, if_true, if_false, ite_self, reduceIte, Int.reduceLE, Int.reduceLT, Int.reduceAdd, Int.reduceSub, Int.reduceNeg, Nat.reduceEqDiff, Nat.reduceAdd, e5, q0, q1, q2, q3, keepsBusy_I hc hi hb h1, d_X5_firstMeeting_B83, lastBusy_I hc hi hr.1, lbS, ih]
    rw [if_neg (by omega)]
    unfold kpP lbS
    by_cases c1 : (x : Int) = bt
    · rw [if_pos c1, decide_eq_false (by omega)]
    · rw [if_neg c1]
      by_cases c2 : S (42 + 5 * x) = ro ∧ S (45 + 5 * x) ≤ 2
      · rw [if_neg (by omega)]
        by_cases c3 : S (44 + 5 * x) ≤ l
        · rw [if_neg (by omega)]
          by_cases c4 : f ≤ S (44 + 5 * x) + S (12 + 4 * rcN S x) - 1 + S (13 + 4 * rcN S x)
          · rw [if_neg (by omega), decide_eq_true ⟨c1, c2.1, c2.2, c3, c4⟩]
          · rw [if_pos (by omega), decide_eq_false (by omega)]
        · rw [if_pos (by omega), decide_eq_false (by omega)]
      · rw [if_pos c2, decide_eq_false (fun h => c2 ⟨h.2.1, h.2.2.1⟩)]
  | _, 0, _, _, hn => absurd hn (by omega)
theorem meet_I {M : Mem} {S : Nat → Int} {W : List Wi} (hc : cv 0 M (S, W)) (hi : SInv (S, W)) {ro f l bt : Int} (h1 : -2147483648 ≤ ro ∧ ro < 2147483648) (h2 : -2147483648 ≤ f ∧ f < 2147483648) (h3 : -2147483648 ≤ l ∧ l < 2147483648) (h4 : -2147483648 ≤ bt ∧ bt < 2147483648) : d_X5_firstMeeting 0 (I ro) (I f) (I l) (I bt) M = some (I (oN (-1) (meetS S ro f l bt)), M) := by
  have h5 := (si_n hi).2.2.2.2.2.1
  unfold d_X5_firstMeeting meetS
  rw [show (0 : Int32) = I ((0 : Nat) : Int) from rfl, meet_L hc hi h1 h2 h3 h4 (S 5).toNat fuelN 0 (by omega) (by unfold fuelN; omega)]
  cases (List.range' 0 (S 5).toNat).find? (kpP S ro f l bt) <;> rfl
theorem meet_lt {S : Nat → Int} {ro f l bt : Int} {b : Nat} (h : meetS S ro f l bt = some b) : (b : Int) < S 5 := by
  have := List.mem_range'_1.mp (List.mem_of_find?_eq_some h)
  omega
theorem oN_sm {S : Nat → Int} {W : List Wi} (hi : SInv (S, W)) (ro f l bt : Int) {z : Int} (hz : -10 ≤ z ∧ z < 0) : -10 ≤ oN z (meetS S ro f l bt) ∧ oN z (meetS S ro f l bt) < 60 := by
  have h5 := (si_n hi).2.2.2.2.2.1
  cases h : meetS S ro f l bt with
  | none => unfold oN; dsimp only; omega
  | some b =>
    have := meet_lt h
    unfold oN
    dsimp only
    omega
theorem oN_e {S : Nat → Int} (ro f l bt : Int) {z : Int} (hz : z < 0) : (oN z (meetS S ro f l bt) = z) = (meetS S ro f l bt = none) := by
  cases h : meetS S ro f l bt with
  | none => exact propext ⟨fun _ => rfl, fun _ => rfl⟩
  | some b =>
    unfold oN
    dsimp only
    exact propext ⟨fun h => absurd h (by omega), fun h => by cases h⟩
/-! the reference's readers -/
theorem rof0 {M : Mem} {S : Nat → Int} {W : List Wi} (hr : rv (M 144) (S, W)) {b : Nat} (hb : b < 60) : d_X9_of (I b) (I 0) M = some (I (S (42 + 5 * b)), M) ∧ d_X9_of (I b) (I 1) M = some (I (S (43 + 5 * b)), M) ∧ d_X9_of (I b) (I 2) M = some (I (S (44 + 5 * b)), M) ∧ d_X9_of (I b) (I 3) M = some (I (S (45 + 5 * b)), M) ∧ d_X9_of (I b) (I 4) M = some (I (S (46 + 5 * b)), M) := by
  obtain ⟨q0, q1, q2, q3, q4⟩ := rv_b hr hb
  unfold d_X9_of
  simp (disch := first | omega | (unfold sm; omega)) only [wq_bd, wq_some, wq_bnd, wq_ite, bnd_e, bd_some, lit_, neg_I, I_lt, I_le, I_eq, I_add, I_sub, I_mul, I_clamp, chk_I, wchk_I, I_succ, Int.toNat_natCast, Int.reduceToNat, b01, b01I, bd_ite, if_true, if_false, ite_self, reduceIte, Int.reduceLE, Int.reduceLT, Int.reduceAdd, Int.reduceSub, Int.reduceNeg, Nat.reduceEqDiff, Nat.reduceAdd]
  refine ⟨?_, ?_, ?_, ?_, ?_⟩
  · rw [← q0]; congr 3 <;> omega
  · rw [← q1]; congr 3 <;> omega
  · rw [← q2]; congr 3 <;> omega
  · rw [← q3]; congr 3 <;> omega
  · rw [← q4]; congr 3 <;> omega
theorem rofR {M : Mem} {S : Nat → Int} {W : List Wi} (hr : rv (M 144) (S, W)) {r : Nat} (hb : r < 8) : d_X9_ofRecipe (I r) (I 0) M = some (I (S (10 + 4 * r)), M) ∧ d_X9_ofRecipe (I r) (I 1) M = some (I (S (11 + 4 * r)), M) ∧ d_X9_ofRecipe (I r) (I 2) M = some (I (S (12 + 4 * r)), M) ∧ d_X9_ofRecipe (I r) (I 3) M = some (I (S (13 + 4 * r)), M) := by
  obtain ⟨q0, q1, q2, q3⟩ := rv_r hr hb
  unfold d_X9_ofRecipe
  simp (disch := first | omega | (unfold sm; omega)) only [wq_bd, wq_some, wq_bnd, wq_ite, bnd_e, bd_some, lit_, neg_I, I_lt, I_le, I_eq, I_add, I_sub, I_mul, I_clamp, chk_I, wchk_I, I_succ, Int.toNat_natCast, Int.reduceToNat, b01, b01I, bd_ite, if_true, if_false, ite_self, reduceIte, Int.reduceLE, Int.reduceLT, Int.reduceAdd, Int.reduceSub, Int.reduceNeg, Nat.reduceEqDiff, Nat.reduceAdd]
  refine ⟨?_, ?_, ?_, ?_⟩
  · rw [← q0]; congr 3 <;> omega
  · rw [← q1]; congr 3 <;> omega
  · rw [← q2]; congr 3 <;> omega
  · rw [← q3]; congr 3 <;> omega
theorem rofW {M : Mem} {S : Nat → Int} {W : List Wi} (hr : rv (M 144) (S, W)) (hl : W.length ≤ 8) {p : Nat} {w : Wi} (hp : W[p]? = some w) : d_X9_ofWish (I p) (I 0) M = some (I w.1, M) ∧ d_X9_ofWish (I p) (I 1) M = some (I w.2.1, M) ∧ d_X9_ofWish (I p) (I 2) M = some (I w.2.2, M) := by
  obtain ⟨q0, q1, q2⟩ := hr.2.2 p w hp
  have := (List.getElem?_eq_some_iff.mp hp).1
  unfold d_X9_ofWish
  simp (disch := first | omega | (unfold sm; omega)) only [wq_bd, wq_some, wq_bnd, wq_ite, bnd_e, bd_some, lit_, neg_I, I_lt, I_le, I_eq, I_add, I_sub, I_mul, I_clamp, chk_I, wchk_I, I_succ, Int.toNat_natCast, Int.reduceToNat, b01, b01I, bd_ite, if_true, if_false, ite_self, reduceIte, Int.reduceLE, Int.reduceLT, Int.reduceAdd, Int.reduceSub, Int.reduceNeg, Nat.reduceEqDiff, Nat.reduceAdd]
  refine ⟨?_, ?_, ?_⟩
  · rw [← q0]; congr 3 <;> omega
  · rw [← q1]; congr 3 <;> omega
  · rw [← q2]; congr 3 <;> omega
theorem rlast_I {M : Mem} {S : Nat → Int} {W : List Wi} (hr : rv (M 144) (S, W)) {r : Nat} (hb : r < 8) (a : Int) : d_X9_last (I r) (I a) M = some (I (lbS S r a), M) := by
  obtain ⟨q0, q1, q2, q3⟩ := rofR hr hb
  unfold d_X9_last
  simp (disch := first | omega | (unfold sm; omega)) only [wq_bd, wq_some, wq_bnd, wq_ite, bnd_e, bd_some, lit_, neg_I, I_lt, I_le, I_eq, I_add, I_sub, I_mul, I_clamp, chk_I, wchk_I, I_succ, Int.toNat_natCast, Int.reduceToNat, b01, b01I, bd_ite, if_true, if_false, ite_self, reduceIte, Int.reduceLE, Int.reduceLT, Int.reduceAdd, Int.reduceSub, Int.reduceNeg, Nat.reduceEqDiff, Nat.reduceAdd, q2, q3]
  rfl
theorem rin_I {a b c : Int} (ha : -2147483648 ≤ a ∧ a < 2147483648) (hb : -2147483648 ≤ b ∧ b < 2147483648) (hc : -2147483648 ≤ c ∧ c < 2147483648) (M : Mem) : d_X9_in (I a) (I b) (I c) M = some ((if b ≤ a ∧ a ≤ c then 1 else 0), M) := by
  simp (disch := first | omega | (unfold sm; omega)) only [wq_bd, wq_some, wq_bnd, wq_ite, bnd_e, bd_some, lit_, neg_I, I_lt, I_le, I_eq, I_add, I_sub, I_mul, I_clamp, chk_I, wchk_I, I_succ, Int.toNat_natCast, Int.reduceToNat, b01, b01I, bd_ite, if_true, if_false, ite_self, reduceIte, Int.reduceLE, Int.reduceLT, Int.reduceAdd, Int.reduceSub, Int.reduceNeg, Nat.reduceEqDiff, Nat.reduceAdd, s_in]
theorem keep_L {M : Mem} {S : Nat → Int} {W : List Wi} (hr : rv (M 144) (S, W)) (hi : SInv (S, W)) {ro f l bt : Int} (h1 : -2147483648 ≤ ro ∧ ro < 2147483648) (h2 : -2147483648 ≤ f ∧ f < 2147483648) (h3 : -2147483648 ≤ l ∧ l < 2147483648) (h4 : -2147483648 ≤ bt ∧ bt < 2147483648) {kx : Mem → Ans} : ∀ (d n x : Nat), (x : Int) + d = S 5 → d < n → d_X9_keeper_L3 (I ro) (I f) (I l) (I bt) kx n (I x) M = (match (List.range' x d).find? (kpP S ro f l bt) with | some b => some (I b, M) | none => kx M)
  | 0, n + 1, x, hx, hn => by
    have h5 := (si_n hi).2.2.2.2.2.1
    have e5 := (rv_n hr).2.2.2.2.2.1
    rw [sd_X9_keeper_L3]
    unfold d_X9_keeper_L3_body
    simp (disch := first | omega | (unfold sm; omega)) only [wq_bd, wq_some, wq_bnd, wq_ite, bnd_e, bd_some, lit_, neg_I, I_lt, I_le, I_eq, I_add, I_sub, I_mul, I_clamp, chk_I, wchk_I, I_succ, Int.toNat_natCast, Int.reduceToNat, b01, b01I, bd_ite, if_true, if_false, ite_self, reduceIte, Int.reduceLE, Int.reduceLT, Int.reduceAdd, Int.reduceSub, Int.reduceNeg, Nat.reduceEqDiff, Nat.reduceAdd, e5]
    rw [if_pos (by omega)]
    rfl
  | d + 1, n + 1, x, hx, hn => by
    have h5 := (si_n hi).2.2.2.2.2.1
    have h0 := (si_n hi).1
    have e5 := (rv_n hr).2.2.2.2.2.1
    have hb : (x : Int) < S 5 := by omega
    obtain ⟨b1, b2, b3, b4, -, -⟩ := si_b hi hb
    obtain ⟨q0, q1, q2, q3, q4⟩ := rof0 hr (b := x) (by omega)
    rw [rcN_e hi hb] at q1
    have hrc := rcN_l hi hb
    have hro := si_r hi hrc.1
    unfold rcOk at hro
    have ih := keep_L hr hi h1 h2 h3 h4 (kx := kx) d n (x + 1) (by omega) (by omega)
    rw [sd_X9_keeper_L3, List.range'_succ, List.find?_cons]
    unfold d_X9_keeper_L3_body
    simp (disch := first | omega | (unfold sm; omega)) only [wq_bd, wq_some, wq_bnd, wq_ite, bnd_e, bd_some, lit_, neg_I, I_lt, I_le, I_eq, I_add, I_sub, I_mul, I_clamp, chk_I, wchk_I, I_succ, Int.toNat_natCast, Int.reduceToNat, b01, b01I, bd_ite, if_true, if_false, ite_self, reduceIte, Int.reduceLE, Int.reduceLT, Int.reduceAdd, Int.reduceSub, Int.reduceNeg, Nat.reduceEqDiff, Nat.reduceAdd, e5, q0, q1, q2, q3, d_X9_keeper_B79, rlast_I hr hrc.2, lbS, ih]
    rw [if_neg (by omega)]
    unfold kpP lbS
    by_cases c1 : (x : Int) = bt
    · rw [if_pos c1, decide_eq_false (by omega)]
    · rw [if_neg c1]
      by_cases c2 : S (42 + 5 * x) = ro
      · rw [if_pos c2]
        by_cases c2' : S (45 + 5 * x) ≤ 2
        · rw [if_neg (by omega)]
          by_cases c3 : S (44 + 5 * x) ≤ l
          · rw [if_neg (by omega)]
            by_cases c4 : f ≤ S (44 + 5 * x) + S (12 + 4 * rcN S x) - 1 + S (13 + 4 * rcN S x)
            · rw [if_neg (by omega), decide_eq_true ⟨c1, c2, c2', c3, c4⟩]
            · rw [if_pos (by omega), decide_eq_false (by omega)]
          · rw [if_pos (by omega), decide_eq_false (by omega)]
        · rw [if_pos (by omega), decide_eq_false (by omega)]
      · rw [if_neg c2, decide_eq_false (by omega)]
  | _, 0, _, _, hn => absurd hn (by omega)
theorem keep_I {M : Mem} {S : Nat → Int} {W : List Wi} (hr : rv (M 144) (S, W)) (hi : SInv (S, W)) {ro f l bt : Int} (h1 : -2147483648 ≤ ro ∧ ro < 2147483648) (h2 : -2147483648 ≤ f ∧ f < 2147483648) (h3 : -2147483648 ≤ l ∧ l < 2147483648) (h4 : -2147483648 ≤ bt ∧ bt < 2147483648) : d_X9_keeper (I ro) (I f) (I l) (I bt) M = some (I (oN (-5) (meetS S ro f l bt)), M) := by
  have h5 := (si_n hi).2.2.2.2.2.1
  unfold d_X9_keeper meetS
  rw [show (0 : Int32) = I ((0 : Nat) : Int) from rfl, keep_L hr hi h1 h2 h3 h4 (S 5).toNat fuelN 0 (by omega) (by unfold fuelN; omega)]
  cases (List.range' 0 (S 5).toNat).find? (kpP S ro f l bt) <;> rfl
/-! how many bookings -/
def cntS (S : Nat → Int) (p : Nat → Bool) : Int := ((List.range' 0 (S 5).toNat).countP p : Nat)
theorem cnt_s (p : Nat → Bool) (x d : Nat) (a : Int) : a + ((List.range' x (d + 1)).countP p : Nat) = (if p x then a + 1 else a) + ((List.range' (x + 1) d).countP p : Nat) := by
  rw [List.range'_succ, List.countP_cons]
  cases p x <;> simp only [if_true, if_false, Bool.false_eq_true] <;> omega
theorem cin_L {M : Mem} {S : Nat → Int} {W : List Wi} (hc : cv 0 M (S, W)) (hi : SInv (S, W)) {u : Int} (h0 : -2147483648 ≤ u ∧ u < 2147483648) {kx : Int32 → Mem → Ans} : ∀ (d n x : Nat) (a : Int), (x : Int) + d = S 5 → d < n → d_X0_inState_L4 0 (I u) kx n (I a) (I x) M = kx (I (a + ((List.range' x d).countP (fun b => decide (S (45 + 5 * b) = u)) : Nat))) M
  | 0, n + 1, x, a, hx, hn => by
    have h5 := (si_n hi).2.2.2.2.2.1
    have e5 := (cv_n hc).2.2.2.2.2.2.2.2.1
    rw [sd_X0_inState_L4]
    unfold d_X0_inState_L4_body
    simp (disch := first | omega | (unfold sm; omega)) only [wq_bd, wq_some, wq_bnd, wq_ite, bnd_e, bd_some, lit_, neg_I, I_lt, I_le, I_eq, I_add, I_sub, I_mul, I_clamp, chk_I, wchk_I, I_succ, Int.toNat_natCast, Int.reduceToNat, b01, b01I, bd_ite, if_true, if_false, ite_self, reduceIte, Int.reduceLE, Int.reduceLT, Int.reduceAdd, Int.reduceSub, Int.reduceNeg, Nat.reduceEqDiff, Nat.reduceAdd, e5]
    rw [if_pos (by omega)]
    exact congrFun (congrArg kx (congrArg I (show a = a + ((0 : Nat) : Int) by omega))) M
  | d + 1, n + 1, x, a, hx, hn => by
    have h5 := (si_n hi).2.2.2.2.2.1
    have h10 := (si_n hi).2.2.2.2.1
    have e5 := (cv_n hc).2.2.2.2.2.2.2.2.1
    have hb : (x : Int) < S 5 := by omega
    obtain ⟨b1, b2, b3, b4, -, -⟩ := si_b hi hb
    obtain ⟨q0, q1, q2, q3, q4⟩ := cv_b hc (b := x) (by omega)
    have ih := fun a => cin_L hc hi h0 (kx := kx) d n (x + 1) a (by omega) (by omega)
    rw [sd_X0_inState_L4, cnt_s]
    unfold d_X0_inState_L4_body
    simp (disch := first | omega | (unfold sm; omega)) only [wq_bd, wq_some, wq_bnd, wq_ite, bnd_e, bd_some, lit_, neg_I, I_lt, I_le, I_eq, I_add, I_sub, I_mul, I_clamp, chk_I, wchk_I, I_succ, Int.toNat_natCast, Int.reduceToNat, b01, b01I, bd_ite, if_true, if_false, ite_self, reduceIte, Int.reduceLE, Int.reduceLT, Int.reduceAdd, Int.reduceSub, Int.reduceNeg, Nat.reduceEqDiff, Nat.reduceAdd, e5, q0, q1, q2, q3, d_X0_inState_B25, ih]
    rw [if_neg (by omega)]
    by_cases c : S (45 + 5 * x) = u
    · rw [if_pos c, if_pos (decide_eq_true c)]
    · rw [if_neg c, if_neg (by rw [decide_eq_false c]; decide)]
  | _, 0, _, _, _, hn => absurd hn (by omega)
theorem cin_I {M : Mem} {S : Nat → Int} {W : List Wi} (hc : cv 0 M (S, W)) (hi : SInv (S, W)) {u : Int} (h0 : -2147483648 ≤ u ∧ u < 2147483648) : d_X0_inState 0 (I u) M = some (I (cntS S (fun b => decide (S (45 + 5 * b) = u))), M) := by
  have h5 := (si_n hi).2.2.2.2.2.1
  unfold d_X0_inState cntS
  rw [show (0 : Int32) = I ((0 : Nat) : Int) from rfl]
  refine (cin_L hc hi h0 (S 5).toNat fuelN 0 0 (by omega) (by unfold fuelN; omega)).trans ?_
  rw [Int.zero_add]
theorem cro_L {M : Mem} {S : Nat → Int} {W : List Wi} (hc : cv 0 M (S, W)) (hi : SInv (S, W)) {v u : Int} (h0 : -2147483648 ≤ v ∧ v < 2147483648) (h1 : -2147483648 ≤ u ∧ u < 2147483648) {kx : Int32 → Mem → Ans} : ∀ (d n x : Nat) (a : Int), (x : Int) + d = S 5 → d < n → d_X0_ofRobot_L5 0 (I v) (I u) kx n (I a) (I x) M = kx (I (a + ((List.range' x d).countP (fun b => decide (S (42 + 5 * b) = v ∧ S (45 + 5 * b) = u)) : Nat))) M
  | 0, n + 1, x, a, hx, hn => by
    have h5 := (si_n hi).2.2.2.2.2.1
    have e5 := (cv_n hc).2.2.2.2.2.2.2.2.1
    rw [sd_X0_ofRobot_L5]
    unfold d_X0_ofRobot_L5_body
    simp (disch := first | omega | (unfold sm; omega)) only [wq_bd, wq_some, wq_bnd, wq_ite, bnd_e, bd_some, lit_, neg_I, I_lt, I_le, I_eq, I_add, I_sub, I_mul, I_clamp, chk_I, wchk_I, I_succ, Int.toNat_natCast, Int.reduceToNat, b01, b01I, bd_ite, if_true, if_false, ite_self, reduceIte, Int.reduceLE, Int.reduceLT, Int.reduceAdd, Int.reduceSub, Int.reduceNeg, Nat.reduceEqDiff, Nat.reduceAdd, e5]
    rw [if_pos (by omega)]
    exact congrFun (congrArg kx (congrArg I (show a = a + ((0 : Nat) : Int) by omega))) M
  | d + 1, n + 1, x, a, hx, hn => by
    have h5 := (si_n hi).2.2.2.2.2.1
    have h10 := (si_n hi).2.2.2.2.1
    have e5 := (cv_n hc).2.2.2.2.2.2.2.2.1
    have hb : (x : Int) < S 5 := by omega
    obtain ⟨b1, b2, b3, b4, -, -⟩ := si_b hi hb
    obtain ⟨q0, q1, q2, q3, q4⟩ := cv_b hc (b := x) (by omega)
    have ih := fun a => cro_L hc hi h0 h1 (kx := kx) d n (x + 1) a (by omega) (by omega)
    rw [sd_X0_ofRobot_L5, cnt_s]
    unfold d_X0_ofRobot_L5_body
    simp (disch := first | omega | (unfold sm; omega)) only [wq_bd, wq_some, wq_bnd, wq_ite, bnd_e, bd_some, lit_, neg_I, I_lt, I_le, I_eq, I_add, I_sub, I_mul, I_clamp, chk_I, wchk_I, I_succ, Int.toNat_natCast, Int.reduceToNat, b01, b01I, bd_ite, if_true, if_false, ite_self, reduceIte, Int.reduceLE, Int.reduceLT, Int.reduceAdd, Int.reduceSub, Int.reduceNeg, Nat.reduceEqDiff, Nat.reduceAdd, e5, q0, q1, q2, q3, d_X0_ofRobot_B39, ih]
    rw [if_neg (by omega)]
    by_cases c : S (42 + 5 * x) = v
    · rw [if_pos c]
      by_cases c2 : S (45 + 5 * x) = u
      · rw [if_pos c2, if_pos (decide_eq_true ⟨c, c2⟩)]
      · rw [if_neg c2, if_neg (by rw [decide_eq_false (fun h => c2 h.2)]; decide)]
    · rw [if_neg c, if_neg (by rw [decide_eq_false (fun h => c h.1)]; decide)]
  | _, 0, _, _, _, hn => absurd hn (by omega)
theorem cro_I {M : Mem} {S : Nat → Int} {W : List Wi} (hc : cv 0 M (S, W)) (hi : SInv (S, W)) {v u : Int} (h0 : -2147483648 ≤ v ∧ v < 2147483648) (h1 : -2147483648 ≤ u ∧ u < 2147483648) : d_X0_ofRobot 0 (I v) (I u) M = some (I (cntS S (fun b => decide (S (42 + 5 * b) = v ∧ S (45 + 5 * b) = u))), M) := by
  have h5 := (si_n hi).2.2.2.2.2.1
  unfold d_X0_ofRobot cntS
  rw [show (0 : Int32) = I ((0 : Nat) : Int) from rfl]
  refine (cro_L hc hi h0 h1 (S 5).toNat fuelN 0 0 (by omega) (by unfold fuelN; omega)).trans ?_
  rw [Int.zero_add]
theorem crc_L {M : Mem} {S : Nat → Int} {W : List Wi} (hc : cv 0 M (S, W)) (hi : SInv (S, W)) {v : Int} (h0 : -2147483648 ≤ v ∧ v < 2147483648) {kx : Int32 → Mem → Ans} : ∀ (d n x : Nat) (a : Int), (x : Int) + d = S 5 → d < n → d_X0_doneOfRecipe_L4 0 (I v) kx n (I a) (I x) M = kx (I (a + ((List.range' x d).countP (fun b => decide (S (43 + 5 * b) = v ∧ S (45 + 5 * b) = 2)) : Nat))) M
  | 0, n + 1, x, a, hx, hn => by
    have h5 := (si_n hi).2.2.2.2.2.1
    have e5 := (cv_n hc).2.2.2.2.2.2.2.2.1
    rw [sd_X0_doneOfRecipe_L4]
    unfold d_X0_doneOfRecipe_L4_body
    simp (disch := first | omega | (unfold sm; omega)) only [wq_bd, wq_some, wq_bnd, wq_ite, bnd_e, bd_some, lit_, neg_I, I_lt, I_le, I_eq, I_add, I_sub, I_mul, I_clamp, chk_I, wchk_I, I_succ, Int.toNat_natCast, Int.reduceToNat, b01, b01I, bd_ite, if_true, if_false, ite_self, reduceIte, Int.reduceLE, Int.reduceLT, Int.reduceAdd, Int.reduceSub, Int.reduceNeg, Nat.reduceEqDiff, Nat.reduceAdd, e5]
    rw [if_pos (by omega)]
    exact congrFun (congrArg kx (congrArg I (show a = a + ((0 : Nat) : Int) by omega))) M
  | d + 1, n + 1, x, a, hx, hn => by
    have h5 := (si_n hi).2.2.2.2.2.1
    have h10 := (si_n hi).2.2.2.2.1
    have e5 := (cv_n hc).2.2.2.2.2.2.2.2.1
    have hb : (x : Int) < S 5 := by omega
    obtain ⟨b1, b2, b3, b4, -, -⟩ := si_b hi hb
    obtain ⟨q0, q1, q2, q3, q4⟩ := cv_b hc (b := x) (by omega)
    have ih := fun a => crc_L hc hi h0 (kx := kx) d n (x + 1) a (by omega) (by omega)
    rw [sd_X0_doneOfRecipe_L4, cnt_s]
    unfold d_X0_doneOfRecipe_L4_body
    simp (disch := first | omega | (unfold sm; omega)) only [wq_bd, wq_some, wq_bnd, wq_ite, bnd_e, bd_some, lit_, neg_I, I_lt, I_le, I_eq, I_add, I_sub, I_mul, I_clamp, chk_I, wchk_I, I_succ, Int.toNat_natCast, Int.reduceToNat, b01, b01I, bd_ite, if_true, if_false, ite_self, reduceIte, Int.reduceLE, Int.reduceLT, Int.reduceAdd, Int.reduceSub, Int.reduceNeg, Nat.reduceEqDiff, Nat.reduceAdd, e5, q0, q1, q2, q3, d_X0_doneOfRecipe_B35, ih]
    rw [if_neg (by omega)]
    by_cases c : S (43 + 5 * x) = v
    · rw [if_pos c]
      by_cases c2 : S (45 + 5 * x) = 2
      · rw [if_pos c2, if_pos (decide_eq_true ⟨c, c2⟩)]
      · rw [if_neg c2, if_neg (by rw [decide_eq_false (fun h => c2 h.2)]; decide)]
    · rw [if_neg c, if_neg (by rw [decide_eq_false (fun h => c h.1)]; decide)]
  | _, 0, _, _, _, hn => absurd hn (by omega)
theorem crc_I {M : Mem} {S : Nat → Int} {W : List Wi} (hc : cv 0 M (S, W)) (hi : SInv (S, W)) {v : Int} (h0 : -2147483648 ≤ v ∧ v < 2147483648) : d_X0_doneOfRecipe 0 (I v) M = some (I (cntS S (fun b => decide (S (43 + 5 * b) = v ∧ S (45 + 5 * b) = 2))), M) := by
  have h5 := (si_n hi).2.2.2.2.2.1
  unfold d_X0_doneOfRecipe cntS
  rw [show (0 : Int32) = I ((0 : Nat) : Int) from rfl]
  refine (crc_L hc hi h0 (S 5).toNat fuelN 0 0 (by omega) (by unfold fuelN; omega)).trans ?_
  rw [Int.zero_add]
theorem rcnt_L {M : Mem} {S : Nat → Int} {W : List Wi} (hr : rv (M 144) (S, W)) (hi : SInv (S, W)) {v w f t : Int} (h0 : -2147483648 ≤ v ∧ v < 2147483648) (h1 : -2147483648 ≤ w ∧ w < 2147483648) (h2 : -2147483648 ≤ f ∧ f < 2147483648) (h3 : -2147483648 ≤ t ∧ t < 2147483648) {kx : Int32 → Mem → Ans} : ∀ (d n x : Nat) (a : Int), (x : Int) + d = S 5 → d < n → d_X9_bookings_L6 (I v) (I w) (I f) (I t) kx n (I a) (I x) M = kx (I (a + ((List.range' x d).countP (fun b => decide ((v < 0 ∨ S (42 + 5 * b) = v) ∧ (w < 0 ∨ S (43 + 5 * b) = w) ∧ f ≤ S (45 + 5 * b) ∧ S (45 + 5 * b) ≤ t)) : Nat))) M
  | 0, n + 1, x, a, hx, hn => by
    have h5 := (si_n hi).2.2.2.2.2.1
    have e5 := (rv_n hr).2.2.2.2.2.1
    rw [sd_X9_bookings_L6]
    unfold d_X9_bookings_L6_body
    simp (disch := first | omega | (unfold sm; omega)) only [wq_bd, wq_some, wq_bnd, wq_ite, bnd_e, bd_some, lit_, neg_I, I_lt, I_le, I_eq, I_add, I_sub, I_mul, I_clamp, chk_I, wchk_I, I_succ, Int.toNat_natCast, Int.reduceToNat, b01, b01I, bd_ite, if_true, if_false, ite_self, reduceIte, Int.reduceLE, Int.reduceLT, Int.reduceAdd, Int.reduceSub, Int.reduceNeg, Nat.reduceEqDiff, Nat.reduceAdd, e5]
    rw [if_pos (by omega)]
    exact congrFun (congrArg kx (congrArg I (show a = a + ((0 : Nat) : Int) by omega))) M
  | d + 1, n + 1, x, a, hx, hn => by
    have h5 := (si_n hi).2.2.2.2.2.1
    have h10 := (si_n hi).2.2.2.2.1
    have e5 := (rv_n hr).2.2.2.2.2.1
    have hb : (x : Int) < S 5 := by omega
    obtain ⟨b1, b2, b3, b4, -, -⟩ := si_b hi hb
    obtain ⟨q0, q1, q2, q3, q4⟩ := rof0 hr (b := x) (by omega)
    have ih := fun a => rcnt_L hr hi h0 h1 h2 h3 (kx := kx) d n (x + 1) a (by omega) (by omega)
    rw [sd_X9_bookings_L6, cnt_s]
    unfold d_X9_bookings_L6_body
    simp (disch := first | omega | (unfold sm; omega)) only [wq_bd, wq_some, wq_bnd, wq_ite, bnd_e, bd_some, lit_, neg_I, I_lt, I_le, I_eq, I_add, I_sub, I_mul, I_clamp, chk_I, wchk_I, I_succ, Int.toNat_natCast, Int.reduceToNat, b01, b01I, bd_ite, if_true, if_false, ite_self, reduceIte, Int.reduceLE, Int.reduceLT, Int.reduceAdd, Int.reduceSub, Int.reduceNeg, Nat.reduceEqDiff, Nat.reduceAdd, e5, q0, q1, q2, q3, d_X9_bookings_B70, d_X9_bookings_B69, d_X9_bookings_B49, d_X9_bookings_B34, rin_I, ih, Int.add_zero]
    rw [if_neg (by omega)]
    have fin : ∀ (p : Prop) [Decidable p], (p ↔ f ≤ S (45 + 5 * x) ∧ S (45 + 5 * x) ≤ t) → (if ¬ (f ≤ S (45 + 5 * x) ∧ S (45 + 5 * x) ≤ t) then kx (I (a + ((List.range' (x + 1) d).countP (fun b => decide ((v < 0 ∨ S (42 + 5 * b) = v) ∧ (w < 0 ∨ S (43 + 5 * b) = w) ∧ f ≤ S (45 + 5 * b) ∧ S (45 + 5 * b) ≤ t)) : Nat))) M else kx (I (a + 1 + ((List.range' (x + 1) d).countP (fun b => decide ((v < 0 ∨ S (42 + 5 * b) = v) ∧ (w < 0 ∨ S (43 + 5 * b) = w) ∧ f ≤ S (45 + 5 * b) ∧ S (45 + 5 * b) ≤ t)) : Nat))) M) = kx (I ((if decide p = true then a + 1 else a) + ((List.range' (x + 1) d).countP (fun b => decide ((v < 0 ∨ S (42 + 5 * b) = v) ∧ (w < 0 ∨ S (43 + 5 * b) = w) ∧ f ≤ S (45 + 5 * b) ∧ S (45 + 5 * b) ≤ t)) : Nat))) M := by
      intro p _ hp
      by_cases c : p
      · rw [if_neg (fun h => h (hp.mp c)), if_pos (decide_eq_true c)]
      · rw [if_pos (fun h => c (hp.mpr h)), if_neg (by rw [decide_eq_false c]; decide)]
    by_cases c0 : v < 0 ∨ S (42 + 5 * x) = v
    · by_cases c1 : w < 0 ∨ S (43 + 5 * x) = w
      · have := fin ((v < 0 ∨ S (42 + 5 * x) = v) ∧ (w < 0 ∨ S (43 + 5 * x) = w) ∧ f ≤ S (45 + 5 * x) ∧ S (45 + 5 * x) ≤ t) ⟨fun h => h.2.2, fun h => ⟨c0, c1, h⟩⟩
        rw [← this]
        by_cases d0 : v < 0 <;> by_cases d1 : w < 0
        · rw [if_pos d0, if_pos d1]
        · rw [if_pos d0, if_neg d1, if_pos (by omega)]
        · rw [if_neg d0, if_pos (by omega), if_pos d1]
        · rw [if_neg d0, if_pos (by omega), if_neg d1, if_pos (by omega)]
      · rw [if_neg (c := decide _ = true) (by rw [decide_eq_false (fun h => c1 h.2.1)]; decide)]
        by_cases d0 : v < 0
        · rw [if_pos d0, if_neg (by omega), if_neg (by omega)]
        · rw [if_neg d0, if_pos (by omega), if_neg (by omega), if_neg (by omega)]
    · rw [if_neg (by omega), if_neg (by omega), if_neg (c := decide _ = true) (by rw [decide_eq_false (fun h => c0 h.1)]; decide)]
  | _, 0, _, _, _, hn => absurd hn (by omega)
theorem rcnt_I {M : Mem} {S : Nat → Int} {W : List Wi} (hr : rv (M 144) (S, W)) (hi : SInv (S, W)) {v w f t : Int} (h0 : -2147483648 ≤ v ∧ v < 2147483648) (h1 : -2147483648 ≤ w ∧ w < 2147483648) (h2 : -2147483648 ≤ f ∧ f < 2147483648) (h3 : -2147483648 ≤ t ∧ t < 2147483648) : d_X9_bookings (I v) (I w) (I f) (I t) M = some (I (cntS S (fun b => decide ((v < 0 ∨ S (42 + 5 * b) = v) ∧ (w < 0 ∨ S (43 + 5 * b) = w) ∧ f ≤ S (45 + 5 * b) ∧ S (45 + 5 * b) ≤ t))), M) := by
  have h5 := (si_n hi).2.2.2.2.2.1
  unfold d_X9_bookings cntS
  rw [show (0 : Int32) = I ((0 : Nat) : Int) from rfl]
  refine (rcnt_L hr hi h0 h1 h2 h3 (S 5).toNat fuelN 0 0 (by omega) (by unfold fuelN; omega)).trans ?_
  rw [Int.zero_add]
theorem cnt_congr {S : Nat → Int} {p q : Nat → Bool} (h : ∀ b : Nat, (b : Int) < S 5 → p b = q b) : cntS S p = cntS S q := by
  unfold cntS
  rw [List.countP_congr (q := q)]
  intro b hb
  have := List.mem_range'_1.mp hb
  rw [h b (by omega)]
/-! busy, free, startable -/
def busyS (S : Nat → Int) (ro t : Int) : Bool := (meetS S ro t t (-1)).isSome
theorem busy_n {S : Nat → Int} {ro t : Int} : (busyS S ro t = true) = ¬ (meetS S ro t t (-1) = none) := by
  unfold busyS
  cases meetS S ro t t (-1) <;> simp
theorem busy_I {M : Mem} {S : Nat → Int} {W : List Wi} (hc : cv 0 M (S, W)) (hi : SInv (S, W)) {ro t : Int} (h1 : -2147483648 ≤ ro ∧ ro < 2147483648) (h2 : -2147483648 ≤ t ∧ t < 2147483648) : d_X5_isBusyIn 0 (I ro) (I t) M = some ((if busyS S ro t = true then 1 else 0), M) := by
  have hz := oN_sm hi ro t t (-1) (z := -1) (by omega)
  unfold d_X5_isBusyIn
  simp (disch := first | omega | (unfold sm; omega)) only [wq_bd, wq_some, wq_bnd, wq_ite, bnd_e, bd_some, lit_, neg_I, I_lt, I_le, I_eq, I_add, I_sub, I_mul, I_clamp, chk_I, wchk_I, I_succ, Int.toNat_natCast, Int.reduceToNat, b01, b01I, bd_ite, if_true, if_false, ite_self, reduceIte, Int.reduceLE, Int.reduceLT, Int.reduceAdd, Int.reduceSub, Int.reduceNeg, Nat.reduceEqDiff, Nat.reduceAdd, meet_I hc hi h1 h2 h2, oN_e, busy_n]
  by_cases c : meetS S ro t t (-1) = none
  · rw [if_pos c, if_neg (fun h => h c)]
  · rw [if_neg c, if_pos c]
theorem kbusy_I {S : Nat → Int} {W : List Wi} (hi : SInv (S, W)) {ro t : Int} {α : Type} {a b : α} : (if I (oN (-5) (meetS S ro t t (-1))) = I (-5) then a else b) = if busyS S ro t = true then b else a := by
  have hz := oN_sm hi ro t t (-1) (z := -5) (by omega)
  simp (disch := first | omega | (unfold sm; omega)) only [wq_bd, wq_some, wq_bnd, wq_ite, bnd_e, bd_some, lit_, neg_I, I_lt, I_le, I_eq, I_add, I_sub, I_mul, I_clamp, chk_I, wchk_I, I_succ, Int.toNat_natCast, Int.reduceToNat, b01, b01I, bd_ite, if_true, if_false, ite_self, reduceIte, Int.reduceLE, Int.reduceLT, Int.reduceAdd, Int.reduceSub, Int.reduceNeg, Nat.reduceEqDiff, Nat.reduceAdd, oN_e, busy_n]
  by_cases c : meetS S ro t t (-1) = none
  · rw [if_pos c, if_neg (fun h => h c)]
  · rw [if_neg c, if_pos c]
theorem free89 {S : Nat → Int} {W : List Wi} (hi : SInv (S, W)) (ro : Int) {t : Int} (ht : S 0 + 89 ≤ t) : busyS S ro t = false := by
  unfold busyS meetS
  rw [Option.isSome_eq_false_iff, Option.isNone_iff_eq_none, List.find?_eq_none]
  intro b hb
  have hb := List.mem_range'_1.mp hb
  have h5 := (si_n hi).2.2.2.2.2.1
  have hbk := si_b hi (b := b) (by omega)
  have hrc := rcN_l hi (b := b) (by omega)
  have hro := si_r hi hrc.1
  unfold rcOk at hro
  obtain ⟨b1, b2, b3, b4, -, -⟩ := hbk
  unfold kpP lbS
  rw [decide_eq_true_iff]
  omega
def freeS (S : Nat → Int) (ro : Int) : Int := S 0 + oN 89 ((List.range' 0 89).find? (fun (k : Nat) => !busyS S ro (S 0 + k)))
theorem free_L {M : Mem} {S : Nat → Int} {W : List Wi} (hc : cv 0 M (S, W)) (hi : SInv (S, W)) {ro : Int} (h1 : -2147483648 ≤ ro ∧ ro < 2147483648) {kx : Mem → Ans} : ∀ (d n x : Nat), x + d = 89 → d < n → d_X5_firstFreeTick_L2 0 (I ro) kx n (I x) M = (match (List.range' x d).find? (fun (k : Nat) => !busyS S ro (S 0 + k)) with | some k => some (I (S 0 + k), M) | none => kx M)
  | 0, n + 1, x, hx, hn => by
    rw [sd_X5_firstFreeTick_L2]
    unfold d_X5_firstFreeTick_L2_body
    simp (disch := first | omega | (unfold sm; omega)) only [wq_bd, wq_some, wq_bnd, wq_ite, bnd_e, bd_some, lit_, neg_I, I_lt, I_le, I_eq, I_add, I_sub, I_mul, I_clamp, chk_I, wchk_I, I_succ, Int.toNat_natCast, Int.reduceToNat, b01, b01I, bd_ite, if_true, if_false, ite_self, reduceIte, Int.reduceLE, Int.reduceLT, Int.reduceAdd, Int.reduceSub, Int.reduceNeg, Nat.reduceEqDiff, Nat.reduceAdd]
    rw [if_pos (by omega)]
    rfl
  | d + 1, n + 1, x, hx, hn => by
    have h0 := (si_n hi).1
    have e0 := (cv_n hc).1
    have ih := free_L hc hi h1 (kx := kx) d n (x + 1) (by omega) (by omega)
    rw [sd_X5_firstFreeTick_L2, List.range'_succ, List.find?_cons]
    unfold d_X5_firstFreeTick_L2_body
    simp (disch := first | omega | (unfold sm; omega)) only [wq_bd, wq_some, wq_bnd, wq_ite, bnd_e, bd_some, lit_, neg_I, I_lt, I_le, I_eq, I_add, I_sub, I_mul, I_clamp, chk_I, wchk_I, I_succ, Int.toNat_natCast, Int.reduceToNat, b01, b01I, bd_ite, if_true, if_false, ite_self, reduceIte, Int.reduceLE, Int.reduceLT, Int.reduceAdd, Int.reduceSub, Int.reduceNeg, Nat.reduceEqDiff, Nat.reduceAdd, e0, busy_I hc hi h1, ih]
    rw [if_neg (by omega)]
    cases busyS S ro (S 0 + x) <;> rfl
  | _, 0, _, _, hn => absurd hn (by omega)
theorem free_I {M : Mem} {S : Nat → Int} {W : List Wi} (hc : cv 0 M (S, W)) (hi : SInv (S, W)) {ro : Int} (h1 : -2147483648 ≤ ro ∧ ro < 2147483648) : d_X5_firstFreeTick 0 (I ro) M = some (I (freeS S ro), M) := by
  have e0 := (cv_n hc).1
  unfold d_X5_firstFreeTick freeS
  rw [show (0 : Int32) = I ((0 : Nat) : Int) from rfl, free_L hc hi h1 89 fuelN 0 (by omega) (by unfold fuelN; omega)]
  cases (List.range' 0 89).find? (fun (k : Nat) => !busyS S ro (S 0 + k))
  · simp (disch := first | omega | (unfold sm; omega)) only [wq_bd, wq_some, wq_bnd, wq_ite, bnd_e, bd_some, lit_, neg_I, I_lt, I_le, I_eq, I_add, I_sub, I_mul, I_clamp, chk_I, wchk_I, I_succ, Int.toNat_natCast, Int.reduceToNat, b01, b01I, bd_ite, if_true, if_false, ite_self, reduceIte, Int.reduceLE, Int.reduceLT, Int.reduceAdd, Int.reduceSub, Int.reduceNeg, Nat.reduceEqDiff, Nat.reduceAdd, e0]; rfl
  · rfl
theorem rfree_L {M : Mem} {S : Nat → Int} {W : List Wi} (hr : rv (M 144) (S, W)) (hi : SInv (S, W)) {ro : Int} (h1 : -2147483648 ≤ ro ∧ ro < 2147483648) {kx : Int32 → Mem → Ans} : ∀ (d n x : Nat), x + d = 89 → d < n → d_X9_robot_L85 (I ro) (fun v M => some (v, M)) n (I (S 0 + x)) M = some (I (S 0 + oN 89 ((List.range' x d).find? (fun (k : Nat) => !busyS S ro (S 0 + k)))), M)
  | 0, n + 1, x, hx, hn => by
    have h0 := (si_n hi).1
    rw [sd_X9_robot_L85]
    unfold d_X9_robot_L85_body
    simp (disch := first | omega | (unfold sm; omega)) only [wq_bd, wq_some, wq_bnd, wq_ite, bnd_e, bd_some, lit_, neg_I, I_lt, I_le, I_eq, I_add, I_sub, I_mul, I_clamp, chk_I, wchk_I, I_succ, Int.toNat_natCast, Int.reduceToNat, b01, b01I, bd_ite, if_true, if_false, ite_self, reduceIte, Int.reduceLE, Int.reduceLT, Int.reduceAdd, Int.reduceSub, Int.reduceNeg, Nat.reduceEqDiff, Nat.reduceAdd, keep_I hr hi h1, kbusy_I hi]
    rw [free89 hi ro (by omega), if_neg (by decide)]
    rw [show (x : Int) = 89 by omega]
    rfl
  | d + 1, n + 1, x, hx, hn => by
    have h0 := (si_n hi).1
    have ih : d_X9_robot_L85 (I ro) (fun v M => some (v, M)) n (I (S 0 + ((x : Int) + 1))) M = _ := rfree_L hr hi h1 (kx := kx) d n (x + 1) (by omega) (by omega)
    rw [sd_X9_robot_L85, List.range'_succ, List.find?_cons]
    unfold d_X9_robot_L85_body
    simp (disch := first | omega | (unfold sm; omega)) only [wq_bd, wq_some, wq_bnd, wq_ite, bnd_e, bd_some, lit_, neg_I, I_lt, I_le, I_eq, I_add, I_sub, I_mul, I_clamp, chk_I, wchk_I, I_succ, Int.toNat_natCast, Int.reduceToNat, b01, b01I, bd_ite, if_true, if_false, ite_self, reduceIte, Int.reduceLE, Int.reduceLT, Int.reduceAdd, Int.reduceSub, Int.reduceNeg, Nat.reduceEqDiff, Nat.reduceAdd, keep_I hr hi h1, kbusy_I hi, Int.add_assoc, ih]
    cases busyS S ro (S 0 + x) <;> rfl
  | _, 0, _, _, hn => absurd hn (by omega)
theorem canStart_I {M : Mem} {S : Nat → Int} {W : List Wi} (hc : cv 0 M (S, W)) (hi : SInv (S, W)) {a : Int} (h1 : -2147483648 ≤ a ∧ a < 2147483648) : d_X5_canStart 0 (I a) M = some ((if S 0 < a ∧ a ≤ S 0 + 60 then 1 else 0), M) := by
  have h0 := (si_n hi).1
  have e0 := (cv_n hc).1
  unfold d_X5_canStart
  simp (disch := first | omega | (unfold sm; omega)) only [wq_bd, wq_some, wq_bnd, wq_ite, bnd_e, bd_some, lit_, neg_I, I_lt, I_le, I_eq, I_add, I_sub, I_mul, I_clamp, chk_I, wchk_I, I_succ, Int.toNat_natCast, Int.reduceToNat, b01, b01I, bd_ite, if_true, if_false, ite_self, reduceIte, Int.reduceLE, Int.reduceLT, Int.reduceAdd, Int.reduceSub, Int.reduceNeg, Nat.reduceEqDiff, Nat.reduceAdd, e0]
  by_cases c : a ≤ S 0
  · rw [if_pos c, if_neg (by omega)]
  · rw [if_neg c]
    by_cases c2 : S 0 + 60 < a
    · rw [if_pos c2, if_neg (by omega)]
    · rw [if_neg c2, if_pos (by omega)]
theorem isStart_I {M : Mem} {S : Nat → Int} {W : List Wi} (hr : rv (M 144) (S, W)) (hi : SInv (S, W)) {a : Int} (h1 : -2147483648 ≤ a ∧ a < 2147483648) : d_X9_isStart (I a) M = some ((if S 0 < a ∧ a ≤ S 0 + 60 then 1 else 0), M) := by
  have h0 := (si_n hi).1
  have e0 := (rv_n hr).1
  unfold d_X9_isStart
  simp (disch := first | omega | (unfold sm; omega)) only [wq_bd, wq_some, wq_bnd, wq_ite, bnd_e, bd_some, lit_, neg_I, I_lt, I_le, I_eq, I_add, I_sub, I_mul, I_clamp, chk_I, wchk_I, I_succ, Int.toNat_natCast, Int.reduceToNat, b01, b01I, bd_ite, if_true, if_false, ite_self, reduceIte, Int.reduceLE, Int.reduceLT, Int.reduceAdd, Int.reduceSub, Int.reduceNeg, Nat.reduceEqDiff, Nat.reduceAdd, e0, rin_I]
  by_cases c : S 0 < a ∧ a ≤ S 0 + 60
  · rw [if_pos c, if_pos (by omega)]; rfl
  · rw [if_neg c, if_neg (by omega)]; rfl
/-! the class's history -/
theorem wstk_I {p : Nat} {k : Nat → Ans} {Q : Int32 → Mem → Prop} (h : p < 7) : wp (stk (I p) k) Q = wp (k p) Q := by
  have e : (I (p : Int)).toNatClampNeg = p := by rw [I_clamp (by unfold sm; omega)]; omega
  rw [wq_stk, e]
  exact propext ⟨fun x => x.2, fun x => ⟨h, x⟩⟩
theorem stk_I {p : Nat} {k : Nat → Ans} (h : p < 7) : stk (I p) k = k p := by
  have e : (I (p : Int)).toNatClampNeg = p := by rw [I_clamp (by unfold sm; omega)]; omega
  unfold stk
  rw [e, if_pos h]
theorem drop_spec {M : Mem} {l : List St} (h : CHist M l) (h4 : l.length = 4) : wp (d_X2_dropOldest M) (fun _ M1 => CHist M1 (l.drop 1) ∧ ∀ i, i ≠ 134 → i ≠ 135 → M1 i = M i) := by
  obtain ⟨h1, h2, p, hp, hinj, hs⟩ := h
  obtain ⟨e0, e0a, e0b⟩ := hp 0 (by decide)
  obtain ⟨e1, e1a, e1b⟩ := hp 1 (by decide)
  obtain ⟨e2, e2a, e2b⟩ := hp 2 (by decide)
  obtain ⟨e3, e3a, e3b⟩ := hp 3 (by decide)
  refine wp_eq (M := mup (mup (mup (mup (mup M 135 0 (nI (p 1))) 135 1 (nI (p 2))) 135 2 (nI (p 3))) 135 3 (nI (p 0))) 134 1 (I 3)) (r := 0) ?_ ?_
  · unfold d_X2_dropOldest
    simp (disch := first | omega | (unfold sm; omega)) only [wq_bd, wq_some, wq_bnd, wq_ite, bnd_e, bd_some, lit_, neg_I, I_lt, I_le, I_eq, I_add, I_sub, I_mul, I_clamp, chk_I, wchk_I, I_succ, Int.toNat_natCast, Int.reduceToNat, b01, b01I, bd_ite, if_true, if_false, ite_self, reduceIte, Int.reduceLE, Int.reduceLT, Int.reduceAdd, Int.reduceSub, Int.reduceNeg, Nat.reduceEqDiff, Nat.reduceAdd, e0, stk_I]
    rw [ud_X2_dropOldest_L9]
    unfold d_X2_dropOldest_L9_body
    simp (disch := first | omega | (unfold sm; omega)) only [wq_bd, wq_some, wq_bnd, wq_ite, bnd_e, bd_some, lit_, neg_I, I_lt, I_le, I_eq, I_add, I_sub, I_mul, I_clamp, chk_I, wchk_I, I_succ, Int.toNat_natCast, Int.reduceToNat, b01, b01I, bd_ite, if_true, if_false, ite_self, reduceIte, Int.reduceLE, Int.reduceLT, Int.reduceAdd, Int.reduceSub, Int.reduceNeg, Nat.reduceEqDiff, Nat.reduceAdd, e1, stk_I]
    rw [sd_X2_dropOldest_L9 (n := 3998)]
    unfold d_X2_dropOldest_L9_body
    simp (disch := first | omega | (unfold sm; omega)) only [wq_bd, wq_some, wq_bnd, wq_ite, bnd_e, bd_some, lit_, neg_I, I_lt, I_le, I_eq, I_add, I_sub, I_mul, I_clamp, chk_I, wchk_I, I_succ, Int.toNat_natCast, Int.reduceToNat, b01, b01I, bd_ite, if_true, if_false, ite_self, reduceIte, Int.reduceLE, Int.reduceLT, Int.reduceAdd, Int.reduceSub, Int.reduceNeg, Nat.reduceEqDiff, Nat.reduceAdd, e2, stk_I, mup_a]
    rw [sd_X2_dropOldest_L9 (n := 3997)]
    unfold d_X2_dropOldest_L9_body
    simp (disch := first | omega | (unfold sm; omega)) only [wq_bd, wq_some, wq_bnd, wq_ite, bnd_e, bd_some, lit_, neg_I, I_lt, I_le, I_eq, I_add, I_sub, I_mul, I_clamp, chk_I, wchk_I, I_succ, Int.toNat_natCast, Int.reduceToNat, b01, b01I, bd_ite, if_true, if_false, ite_self, reduceIte, Int.reduceLE, Int.reduceLT, Int.reduceAdd, Int.reduceSub, Int.reduceNeg, Nat.reduceEqDiff, Nat.reduceAdd, e3, stk_I, mup_a]
    rw [sd_X2_dropOldest_L9 (n := 3996)]
    unfold d_X2_dropOldest_L9_body
    simp (disch := first | omega | (unfold sm; omega)) only [wq_bd, wq_some, wq_bnd, wq_ite, bnd_e, bd_some, lit_, neg_I, I_lt, I_le, I_eq, I_add, I_sub, I_mul, I_clamp, chk_I, wchk_I, I_succ, Int.toNat_natCast, Int.reduceToNat, b01, b01I, bd_ite, if_true, if_false, ite_self, reduceIte, Int.reduceLE, Int.reduceLT, Int.reduceAdd, Int.reduceSub, Int.reduceNeg, Nat.reduceEqDiff, Nat.reduceAdd, mup_a, h1, h4]
    rfl
  · refine ⟨⟨?_, ?_, fun j => p ((j + 1) % 4), ?_, ?_, ?_⟩, fun i hi h5 => ?_⟩
    · rw [List.length_drop, h4]; rfl
    · rw [List.length_drop]; omega
    · intro j hj
      rcases (show j = 0 ∨ j = 1 ∨ j = 2 ∨ j = 3 by omega) with rfl | rfl | rfl | rfl
      · exact ⟨rfl, e1a, e1b⟩
      · exact ⟨rfl, e2a, e2b⟩
      · exact ⟨rfl, e3a, e3b⟩
      · exact ⟨rfl, e0a, e0b⟩
    · intro i j hi hj e
      have := hinj _ _ (Nat.mod_lt (i + 1) (by decide)) (Nat.mod_lt (j + 1) (by decide)) e
      omega
    · intro j s hj
      rw [List.getElem?_drop] at hj
      have hl := (List.getElem?_eq_some_iff.mp hj).1
      have := hs (1 + j) s hj
      have e : (j + 1) % 4 = 1 + j := by omega
      dsimp only
      rw [e]
      have hb := (hp (1 + j) (by omega)).2
      refine cv_congr this (fun q hq => ?_)
      rw [mup_n (by unfold sI; omega), mup_n (by unfold sI; omega), mup_n (by unfold sI; omega), mup_n (by unfold sI; omega), mup_n (by unfold sI; omega)]
    · rw [mup_n hi, mup_n h5, mup_n h5, mup_n h5, mup_n h5]
theorem pushB_spec {M : Mem} {l : List St} {s : St} {k : Nat} (hk : k < 3) (h : CHist M l) (h4 : l.length < 4) (hs8 : s.2.length ≤ 8) (hc : cv k M s) : wp (d_X2_push_B12 k M) (fun _ M1 => CHist M1 (l ++ [s]) ∧ ∀ i, i < 48 ∨ (112 ≤ i ∧ i ≠ 134) → M1 i = M i) := by
  obtain ⟨h1, h2, p, hp, hinj, hs⟩ := h
  obtain ⟨e0, e0a, e0b⟩ := hp l.length h4
  unfold d_X2_push_B12
  simp (disch := first | omega | (unfold sm; omega)) only [wq_bd, wq_some, wq_bnd, wq_ite, bnd_e, bd_some, lit_, neg_I, I_lt, I_le, I_eq, I_add, I_sub, I_mul, I_clamp, chk_I, wchk_I, I_succ, Int.toNat_natCast, Int.reduceToNat, b01, b01I, bd_ite, if_true, if_false, ite_self, reduceIte, Int.reduceLE, Int.reduceLT, Int.reduceAdd, Int.reduceSub, Int.reduceNeg, Nat.reduceEqDiff, Nat.reduceAdd, h1, e0, wstk_I]
  rw [if_neg (by omega), if_pos (by omega)]
  refine wp_mono (copy_cv (k := p l.length) (q := k) (by omega) hs8 hc) (fun r M1 q => ?_)
  obtain ⟨-, q1, q2⟩ := q
  refine ⟨⟨?_, ?_, p, ?_, hinj, ?_⟩, fun i hi => ?_⟩
  · rw [mup_s, upd_s, q2 134 (by omega), h1, List.length_append]
    simp (disch := first | omega | (unfold sm; omega)) only [wq_bd, wq_some, wq_bnd, wq_ite, bnd_e, bd_some, lit_, neg_I, I_lt, I_le, I_eq, I_add, I_sub, I_mul, I_clamp, chk_I, wchk_I, I_succ, Int.toNat_natCast, Int.reduceToNat, b01, b01I, bd_ite, if_true, if_false, ite_self, reduceIte, Int.reduceLE, Int.reduceLT, Int.reduceAdd, Int.reduceSub, Int.reduceNeg, Nat.reduceEqDiff, Nat.reduceAdd]
    rfl
  · rw [List.length_append]
    simp only [List.length_cons, List.length_nil]
    omega
  · intro j hj
    rw [mup_n (by decide), q2 135 (by omega)]
    exact hp j hj
  · intro j s' hj
    by_cases hjl : j < l.length
    · rw [List.getElem?_append_left hjl] at hj
      have hb := (hp j (by omega)).2
      have hne : p j ≠ p l.length := fun e => by
        have := hinj _ _ (by omega) (by omega) e
        omega
      refine cv_congr (hs j s' hj) (fun q hq => ?_)
      rw [mup_n (by unfold sI; omega), q2 _ (by unfold sI; omega)]
    · have hl := (List.getElem?_eq_some_iff.mp hj).1
      rw [List.length_append] at hl
      simp only [List.length_cons, List.length_nil] at hl
      have ej : j = l.length := by omega
      subst ej
      rw [List.getElem?_append_right (by omega), Nat.sub_self] at hj
      cases hj
      exact cv_congr q1 (fun q hq => mup_n (by unfold sI; omega))
  · rw [mup_n (by omega), q2 i (by omega)]
theorem push_spec {M : Mem} {l : List St} {s : St} {k : Nat} (hk : k < 3) (h : CHist M l) (hs8 : s.2.length ≤ 8) (hc : cv k M s) : wp (d_X2_push k M) (fun _ M1 => CHist M1 (pushH l s) ∧ ∀ i, i < 48 ∨ (112 ≤ i ∧ i ≠ 134 ∧ i ≠ 135) → M1 i = M i) := by
  have h1 := h.1
  have h2 := h.2.1
  unfold d_X2_push pushH
  simp (disch := first | omega | (unfold sm; omega)) only [wq_bd, wq_some, wq_bnd, wq_ite, bnd_e, bd_some, lit_, neg_I, I_lt, I_le, I_eq, I_add, I_sub, I_mul, I_clamp, chk_I, wchk_I, I_succ, Int.toNat_natCast, Int.reduceToNat, b01, b01I, bd_ite, if_true, if_false, ite_self, reduceIte, Int.reduceLE, Int.reduceLT, Int.reduceAdd, Int.reduceSub, Int.reduceNeg, Nat.reduceEqDiff, Nat.reduceAdd, h1]
  by_cases h4 : l.length = 4
  · rw [if_neg (by omega), if_pos h4]
    refine wp_mono (drop_spec h h4) (fun r M1 q => ?_)
    refine wp_mono (pushB_spec (s := s) hk q.1 (by rw [List.length_drop]; omega) hs8 (cv_congr hc (fun j hj => q.2 _ (by unfold sI; omega) (by unfold sI; omega)))) (fun r M2 q2 => ?_)
    exact ⟨q2.1, fun i hi => (q2.2 i (by omega)).trans (q.2 i (by omega) (by omega))⟩
  · rw [if_pos (by omega), if_neg h4]
    exact wp_mono (pushB_spec hk h (by omega) hs8 hc) (fun r M1 q => ⟨q.1, fun i hi => q.2 i (by omega)⟩)
theorem pop_spec {M : Mem} {l : List St} {s : St} (h : CHist M (l ++ [s])) (hs8 : s.2.length ≤ 8) : wp (d_X2_popInto 0 M) (fun _ M1 => CHist M1 l ∧ cv 0 M1 s ∧ ∀ i, 16 ≤ i → i ≠ 134 → M1 i = M i) := by
  obtain ⟨h1, h2, p, hp, hinj, hs⟩ := h
  have hl : (l ++ [s]).length = l.length + 1 := by rw [List.length_append]; rfl
  rw [hl] at h1 h2
  obtain ⟨e0, e0a, e0b⟩ := hp l.length (by omega)
  have hcs := hs l.length s (by rw [List.getElem?_append_right (by omega), Nat.sub_self]; rfl)
  unfold d_X2_popInto
  simp (disch := first | omega | (unfold sm; omega)) only [wq_bd, wq_some, wq_bnd, wq_ite, bnd_e, bd_some, lit_, neg_I, I_lt, I_le, I_eq, I_add, I_sub, I_mul, I_clamp, chk_I, wchk_I, I_succ, Int.toNat_natCast, Int.reduceToNat, b01, b01I, bd_ite, if_true, if_false, ite_self, reduceIte, Int.reduceLE, Int.reduceLT, Int.reduceAdd, Int.reduceSub, Int.reduceNeg, Nat.reduceEqDiff, Nat.reduceAdd, h1]
  rw [if_neg (by omega), if_pos (by omega)]
  rw [mup_s, upd_s, mup_n (by decide)]
  rw [show ((l.length + 1 : Nat) : Int) - 1 = (l.length : Int) by omega]
  simp (disch := first | omega | (unfold sm; omega)) only [wq_bd, wq_some, wq_bnd, wq_ite, bnd_e, bd_some, lit_, neg_I, I_lt, I_le, I_eq, I_add, I_sub, I_mul, I_clamp, chk_I, wchk_I, I_succ, Int.toNat_natCast, Int.reduceToNat, b01, b01I, bd_ite, if_true, if_false, ite_self, reduceIte, Int.reduceLE, Int.reduceLT, Int.reduceAdd, Int.reduceSub, Int.reduceNeg, Nat.reduceEqDiff, Nat.reduceAdd, e0, wstk_I]
  refine wp_mono (copy_cv (k := 0) (q := p l.length) (by omega) hs8 (cv_congr hcs (fun q hq => mup_n (by unfold sI; omega)))) (fun r M1 q => ?_)
  obtain ⟨-, q1, q2⟩ := q
  refine ⟨⟨?_, by omega, p, ?_, hinj, ?_⟩, q1, fun i hi h5 => ?_⟩
  · rw [q2 134 (by omega), mup_s, upd_s]
  · intro j hj
    rw [q2 135 (by omega), mup_n (by decide)]
    exact hp j hj
  · intro j s' hj
    have hjl := (List.getElem?_eq_some_iff.mp hj).1
    have hb := (hp j (by omega)).2
    refine cv_congr (hs j s' (by rw [List.getElem?_append_left hjl]; exact hj)) (fun q hq => ?_)
    rw [q2 _ (by unfold sI; omega), mup_n (by unfold sI; omega)]
  · rw [q2 i (by omega), mup_n h5]
/-! one cell of a state -/
def setS (S : Nat → Int) (i : Nat) (v : Int) : Nat → Int := fun j => if j = i then v else S j
theorem setS_s {S : Nat → Int} {i : Nat} {v : Int} : setS S i v i = v := if_pos rfl
theorem setS_n {S : Nat → Int} {i j : Nat} {v : Int} (h : j ≠ i) : setS S i v j = S j := if_neg h
def cO (i : Nat) : Nat := if i < 10 then (if i = 4 then 1 else if i = 5 then 6 else if i = 6 then 12 else 0) else if i < 42 then 2 + (i - 10) % 4 else 7 + (i - 42) % 5
def cP (i : Nat) : Nat := if i < 10 then (if i ≤ 3 then i else if i ≤ 6 then 0 else i - 3) else if i < 42 then (i - 10) / 4 else (i - 42) / 5
theorem cOP_inj {i j : Nat} (hi : i < 342) (hj : j < 342) (h1 : cO i = cO j) (h2 : cP i = cP j) : i = j := by
  by_cases a : i < 10 <;> by_cases b : j < 10
  · exact (by decide : ∀ i, i < 10 → ∀ j, j < 10 → cO i = cO j → cP i = cP j → i = j) i a j b h1 h2
  all_goals unfold cO at h1
  all_goals unfold cP at h2
  · rw [if_pos a, if_neg b] at h1 h2
    split at h1 <;> (try split at h1) <;> (try split at h1) <;> (try split at h1) <;> omega
  · rw [if_neg a, if_pos b] at h1 h2
    split at h1 <;> (try split at h1) <;> (try split at h1) <;> (try split at h1) <;> omega
  · rw [if_neg a, if_neg b] at h1 h2
    by_cases c : i < 42 <;> by_cases d : j < 42
    · rw [if_pos c, if_pos d] at h1 h2; omega
    · rw [if_pos c, if_neg d] at h1 h2; omega
    · rw [if_neg c, if_pos d] at h1 h2; omega
    · rw [if_neg c, if_neg d] at h1 h2; omega
theorem cO_lt {i : Nat} : cO i < 13 := by
  unfold cO
  split
  · split <;> (try split) <;> (try split) <;> omega
  · split <;> omega
theorem cO_12 {i : Nat} (h : i ≠ 6) : cO i ≠ 12 := by
  unfold cO
  split
  · split <;> (try split) <;> (try split) <;> omega
  · split <;> omega
theorem cO_r {r a : Nat} (hr : r < 8) (ha : a < 4) : cO (10 + a + 4 * r) = 2 + a ∧ cP (10 + a + 4 * r) = r := by
  unfold cO cP
  rw [if_neg (by omega), if_pos (by omega), if_neg (by omega), if_pos (by omega)]
  omega
theorem cO_b {b a : Nat} (ha : a < 5) : cO (42 + a + 5 * b) = 7 + a ∧ cP (42 + a + 5 * b) = b := by
  unfold cO cP
  rw [if_neg (by omega), if_neg (by omega), if_neg (by omega), if_neg (by omega)]
  omega
def wv (k : Nat) (M : Mem) (W : List Wi) : Prop := M (sI k 12) 0 = I W.length ∧ ∀ p w, W[p]? = some w → M (sI k 13) p = I w.1 ∧ M (sI k 14) p = I w.2.1 ∧ M (sI k 15) p = I w.2.2
theorem cv_cc {k : Nat} {M : Mem} {S : Nat → Int} {W : List Wi} : cv k M (S, W) ↔ (∀ i, i < 342 → i ≠ 6 → M (sI k (cO i)) (cP i) = I (S i)) ∧ wv k M W := by
  constructor
  · intro h
    refine ⟨fun i hi h6 => ?_, h.2.1.2.2, h.2.2.2.2⟩
    obtain ⟨n0, n1, n2, n3, n7, n8, n9, n4, n5, n6⟩ := cv_n h
    by_cases h10 : i < 10
    · rcases (show i = 0 ∨ i = 1 ∨ i = 2 ∨ i = 3 ∨ i = 4 ∨ i = 5 ∨ i = 7 ∨ i = 8 ∨ i = 9 by omega) with rfl | rfl | rfl | rfl | rfl | rfl | rfl | rfl | rfl <;> assumption
    · by_cases h42 : i < 42
      · obtain ⟨q0, q1, q2, q3⟩ := cv_r h (r := (i - 10) / 4) (by omega)
        have e : ∃ a, a < 4 ∧ i = 10 + a + 4 * ((i - 10) / 4) := ⟨(i - 10) % 4, by omega, by omega⟩
        obtain ⟨a, ha, ea⟩ := e
        have := cO_r (r := (i - 10) / 4) (a := a) (by omega) ha
        rw [← ea] at this
        rw [this.1, this.2]
        rcases (show a = 0 ∨ a = 1 ∨ a = 2 ∨ a = 3 by omega) with rfl | rfl | rfl | rfl
        · exact q0.trans (congrArg (fun x => I (S x)) (by omega))
        · exact q1.trans (congrArg (fun x => I (S x)) (by omega))
        · exact q2.trans (congrArg (fun x => I (S x)) (by omega))
        · exact q3.trans (congrArg (fun x => I (S x)) (by omega))
      · obtain ⟨q0, q1, q2, q3, q4⟩ := cv_b h (b := (i - 42) / 5) (by omega)
        have e : ∃ a, a < 5 ∧ i = 42 + a + 5 * ((i - 42) / 5) := ⟨(i - 42) % 5, by omega, by omega⟩
        obtain ⟨a, ha, ea⟩ := e
        have := cO_b (b := (i - 42) / 5) (a := a) ha
        rw [← ea] at this
        rw [this.1, this.2]
        rcases (show a = 0 ∨ a = 1 ∨ a = 2 ∨ a = 3 ∨ a = 4 by omega) with rfl | rfl | rfl | rfl | rfl
        · exact q0.trans (congrArg (fun x => I (S x)) (by omega))
        · exact q1.trans (congrArg (fun x => I (S x)) (by omega))
        · exact q2.trans (congrArg (fun x => I (S x)) (by omega))
        · exact q3.trans (congrArg (fun x => I (S x)) (by omega))
        · exact q4.trans (congrArg (fun x => I (S x)) (by omega))
  · intro ⟨h, h12, hw⟩
    refine ⟨⟨h 0 (by decide) (by decide), h 1 (by decide) (by decide), h 2 (by decide) (by decide), h 3 (by decide) (by decide), h 7 (by decide) (by decide), h 8 (by decide) (by decide), h 9 (by decide) (by decide)⟩, ⟨h 4 (by decide) (by decide), h 5 (by decide) (by decide), h12⟩, fun r hr => ?_, fun b hb => ?_, hw⟩
    · have q0 := h (10 + 0 + 4 * r) (by omega) (by omega)
      have q1 := h (10 + 1 + 4 * r) (by omega) (by omega)
      have q2 := h (10 + 2 + 4 * r) (by omega) (by omega)
      have q3 := h (10 + 3 + 4 * r) (by omega) (by omega)
      rw [(cO_r hr (by decide)).1, (cO_r hr (by decide)).2] at q0 q1 q2 q3
      exact ⟨q0, q1, q2, q3⟩
    · have q0 := h (42 + 0 + 5 * b) (by omega) (by omega)
      have q1 := h (42 + 1 + 5 * b) (by omega) (by omega)
      have q2 := h (42 + 2 + 5 * b) (by omega) (by omega)
      have q3 := h (42 + 3 + 5 * b) (by omega) (by omega)
      have q4 := h (42 + 4 + 5 * b) (by omega) (by omega)
      rw [(cO_b (by decide)).1, (cO_b (by decide)).2] at q0 q1 q2 q3 q4
      exact ⟨q0, q1, q2, q3, q4⟩
theorem cv_set {k : Nat} {M : Mem} {S : Nat → Int} {W : List Wi} (h : cv k M (S, W)) {i : Nat} (hi : i < 342) (h6 : i ≠ 6) (v : Int) {a b : Nat} (ha : cO i = a) (hb : cP i = b) : cv k (mup M (sI k a) b (I v)) (setS S i v, W) := by
  obtain ⟨h1, h2, h3⟩ := cv_cc.mp h
  have hlt := @cO_lt i
  have h12 := cO_12 h6
  subst ha
  subst hb
  refine cv_cc.mpr ⟨fun j hj hj6 => ?_, ?_, fun p w hp => ?_⟩
  · by_cases e : j = i
    · subst e
      rw [mup_s, upd_s, setS_s]
    · rw [setS_n e]
      by_cases e2 : cO j = cO i
      · rw [e2, mup_s, upd_n (fun e3 => e (cOP_inj hj hi e2 e3)), ← e2]
        exact h1 j hj hj6
      · rw [mup_n (sI_nm e2)]
        exact h1 j hj hj6
  · rw [mup_n (sI_nm (Ne.symm h12))]; exact h2
  · rw [mup_n (sI_nm (by omega)), mup_n (sI_nm (by omega)), mup_n (sI_nm (by omega))]
    exact h3 p w hp
theorem rv_set {f : Nat → Int32} {S : Nat → Int} {W : List Wi} (h : rv f (S, W)) {i : Nat} (hi : i < 342) (h6 : i ≠ 6) (v : Int) : rv (upd f i (I v)) (setS S i v, W) := by
  obtain ⟨h1, h2, h3⟩ := h
  refine ⟨fun j hj hj6 => ?_, ?_, fun p w hp => ?_⟩
  · by_cases e : j = i
    · subst e
      rw [upd_s]; exact congrArg I setS_s.symm
    · rw [upd_n e]; exact (h1 j hj hj6).trans (congrArg I (setS_n e).symm)
  · rw [upd_n (by omega)]; exact h2
  · rw [upd_n (by omega), upd_n (by omega), upd_n (by omega)]
    exact h3 p w hp
theorem cv_set1 {k : Nat} {M : Mem} {S : Nat → Int} {W : List Wi} (h : cv k M (S, W)) (v : Int) :
  cv k (mup M (sI k 0) 0 (I v)) (setS S 0 v, W) ∧ cv k (mup M (sI k 0) 1 (I v)) (setS S 1 v, W) ∧ cv k (mup M (sI k 0) 2 (I v)) (setS S 2 v, W) ∧ cv k (mup M (sI k 0) 3 (I v)) (setS S 3 v, W) ∧ cv k (mup M (sI k 0) 4 (I v)) (setS S 7 v, W) ∧ cv k (mup M (sI k 0) 5 (I v)) (setS S 8 v, W) ∧ cv k (mup M (sI k 0) 6 (I v)) (setS S 9 v, W) ∧ cv k (mup M (sI k 1) 0 (I v)) (setS S 4 v, W) ∧ cv k (mup M (sI k 6) 0 (I v)) (setS S 5 v, W) :=
  ⟨cv_set h (by decide) (by decide) v rfl rfl, cv_set h (by decide) (by decide) v rfl rfl, cv_set h (by decide) (by decide) v rfl rfl, cv_set h (by decide) (by decide) v rfl rfl, cv_set h (by decide) (by decide) v rfl rfl, cv_set h (by decide) (by decide) v rfl rfl, cv_set h (by decide) (by decide) v rfl rfl, cv_set h (by decide) (by decide) v rfl rfl, cv_set h (by decide) (by decide) v rfl rfl⟩
theorem cv_setr {k : Nat} {M : Mem} {S : Nat → Int} {W : List Wi} (h : cv k M (S, W)) {r : Nat} (hr : r < 8) (v : Int) :
  cv k (mup M (sI k 2) r (I v)) (setS S (10 + 4 * r) v, W) ∧ cv k (mup M (sI k 3) r (I v)) (setS S (11 + 4 * r) v, W) ∧ cv k (mup M (sI k 4) r (I v)) (setS S (12 + 4 * r) v, W) ∧ cv k (mup M (sI k 5) r (I v)) (setS S (13 + 4 * r) v, W) :=
  ⟨cv_set h (by omega) (by omega) v (cO_r (a := 0) hr (by decide)).1 (cO_r (a := 0) hr (by decide)).2, cv_set h (by omega) (by omega) v (cO_r (a := 1) hr (by decide)).1 (cO_r (a := 1) hr (by decide)).2, cv_set h (by omega) (by omega) v (cO_r (a := 2) hr (by decide)).1 (cO_r (a := 2) hr (by decide)).2, cv_set h (by omega) (by omega) v (cO_r (a := 3) hr (by decide)).1 (cO_r (a := 3) hr (by decide)).2⟩
theorem cv_setb {k : Nat} {M : Mem} {S : Nat → Int} {W : List Wi} (h : cv k M (S, W)) {b : Nat} (hb : b < 60) (v : Int) :
  cv k (mup M (sI k 7) b (I v)) (setS S (42 + 5 * b) v, W) ∧ cv k (mup M (sI k 8) b (I v)) (setS S (43 + 5 * b) v, W) ∧ cv k (mup M (sI k 9) b (I v)) (setS S (44 + 5 * b) v, W) ∧ cv k (mup M (sI k 10) b (I v)) (setS S (45 + 5 * b) v, W) ∧ cv k (mup M (sI k 11) b (I v)) (setS S (46 + 5 * b) v, W) :=
  ⟨cv_set h (by omega) (by omega) v (cO_b (a := 0) (by decide)).1 (cO_b (a := 0) (by decide)).2, cv_set h (by omega) (by omega) v (cO_b (a := 1) (by decide)).1 (cO_b (a := 1) (by decide)).2, cv_set h (by omega) (by omega) v (cO_b (a := 2) (by decide)).1 (cO_b (a := 2) (by decide)).2, cv_set h (by omega) (by omega) v (cO_b (a := 3) (by decide)).1 (cO_b (a := 3) (by decide)).2, cv_set h (by omega) (by omega) v (cO_b (a := 4) (by decide)).1 (cO_b (a := 4) (by decide)).2⟩
/-! the reference copies rows -/
theorem goes_L {kx : Mem → Ans} : ∀ (d n x : Nat) (M : Mem), x + d = 366 → d < n → d_X9_goes_L2 kx n (I x) M = kx (mset M 147 (fun j => if x ≤ j ∧ j < 366 then M 144 j else M 147 j))
  | 0, n + 1, x, M, hx, hn => by
    rw [sd_X9_goes_L2]
    unfold d_X9_goes_L2_body
    simp (disch := first | omega | (unfold sm; omega)) only [wq_bd, wq_some, wq_bnd, wq_ite, bnd_e, bd_some, lit_, neg_I, I_lt, I_le, I_eq, I_add, I_sub, I_mul, I_clamp, chk_I, wchk_I, I_succ, Int.toNat_natCast, Int.reduceToNat, b01, b01I, bd_ite, if_true, if_false, ite_self, reduceIte, Int.reduceLE, Int.reduceLT, Int.reduceAdd, Int.reduceSub, Int.reduceNeg, Nat.reduceEqDiff, Nat.reduceAdd]
    rw [if_pos (by omega), mset_self]
    intro j
    rw [if_neg (by omega)]
  | d + 1, n + 1, x, M, hx, hn => by
    have ih := fun M => goes_L (kx := kx) d n (x + 1) M (by omega) (by omega)
    rw [sd_X9_goes_L2]
    unfold d_X9_goes_L2_body
    simp (disch := first | omega | (unfold sm; omega)) only [wq_bd, wq_some, wq_bnd, wq_ite, bnd_e, bd_some, lit_, neg_I, I_lt, I_le, I_eq, I_add, I_sub, I_mul, I_clamp, chk_I, wchk_I, I_succ, Int.toNat_natCast, Int.reduceToNat, b01, b01I, bd_ite, if_true, if_false, ite_self, reduceIte, Int.reduceLE, Int.reduceLT, Int.reduceAdd, Int.reduceSub, Int.reduceNeg, Nat.reduceEqDiff, Nat.reduceAdd, ih]
    rw [if_neg (by omega)]
    congr 1
    funext a b
    simp only [mset_a, mup_a]
    by_cases ha : a = 147
    · simp only [ha, if_true, show ((144 : Nat) = 147) = False from by decide, if_false]
      by_cases hb : b = x
      · subst hb
        rw [if_neg (by omega), if_pos rfl, if_pos (by omega)]
      · by_cases hb2 : x + 1 ≤ b ∧ b < 366
        · rw [if_pos hb2, if_pos (by omega)]
        · rw [if_neg hb2, if_neg hb, if_neg (by omega)]
    · simp only [ha, if_false]
  | _, 0, _, _, _, hn => absurd hn (by omega)
theorem comes_L {kx : Mem → Ans} : ∀ (d n x : Nat) (M : Mem), x + d = 366 → d < n → d_X9_comes_L2 kx n (I x) M = kx (mset M 144 (fun j => if x ≤ j ∧ j < 366 then M 147 j else M 144 j))
  | 0, n + 1, x, M, hx, hn => by
    rw [sd_X9_comes_L2]
    unfold d_X9_comes_L2_body
    simp (disch := first | omega | (unfold sm; omega)) only [wq_bd, wq_some, wq_bnd, wq_ite, bnd_e, bd_some, lit_, neg_I, I_lt, I_le, I_eq, I_add, I_sub, I_mul, I_clamp, chk_I, wchk_I, I_succ, Int.toNat_natCast, Int.reduceToNat, b01, b01I, bd_ite, if_true, if_false, ite_self, reduceIte, Int.reduceLE, Int.reduceLT, Int.reduceAdd, Int.reduceSub, Int.reduceNeg, Nat.reduceEqDiff, Nat.reduceAdd]
    rw [if_pos (by omega), mset_self]
    intro j
    rw [if_neg (by omega)]
  | d + 1, n + 1, x, M, hx, hn => by
    have ih := fun M => comes_L (kx := kx) d n (x + 1) M (by omega) (by omega)
    rw [sd_X9_comes_L2]
    unfold d_X9_comes_L2_body
    simp (disch := first | omega | (unfold sm; omega)) only [wq_bd, wq_some, wq_bnd, wq_ite, bnd_e, bd_some, lit_, neg_I, I_lt, I_le, I_eq, I_add, I_sub, I_mul, I_clamp, chk_I, wchk_I, I_succ, Int.toNat_natCast, Int.reduceToNat, b01, b01I, bd_ite, if_true, if_false, ite_self, reduceIte, Int.reduceLE, Int.reduceLT, Int.reduceAdd, Int.reduceSub, Int.reduceNeg, Nat.reduceEqDiff, Nat.reduceAdd, ih]
    rw [if_neg (by omega)]
    congr 1
    funext a b
    simp only [mset_a, mup_a]
    by_cases ha : a = 144
    · simp only [ha, if_true, show ((147 : Nat) = 144) = False from by decide, if_false]
      by_cases hb : b = x
      · subst hb
        rw [if_neg (by omega), if_pos rfl, if_pos (by omega)]
      · by_cases hb2 : x + 1 ≤ b ∧ b < 366
        · rw [if_pos hb2, if_pos (by omega)]
        · rw [if_neg hb2, if_neg hb, if_neg (by omega)]
    · simp only [ha, if_false]
  | _, 0, _, _, _, hn => absurd hn (by omega)
theorem kp_L {kx : Mem → Ans} : ∀ (d n x : Nat) (M : Mem), x + d = 366 → d < n → d_X9_keep_L2 kx n (I x) M = kx (mset M 146 (fun j => if x ≤ j ∧ j < 366 then M 144 j else M 146 j))
  | 0, n + 1, x, M, hx, hn => by
    rw [sd_X9_keep_L2]
    unfold d_X9_keep_L2_body
    simp (disch := first | omega | (unfold sm; omega)) only [wq_bd, wq_some, wq_bnd, wq_ite, bnd_e, bd_some, lit_, neg_I, I_lt, I_le, I_eq, I_add, I_sub, I_mul, I_clamp, chk_I, wchk_I, I_succ, Int.toNat_natCast, Int.reduceToNat, b01, b01I, bd_ite, if_true, if_false, ite_self, reduceIte, Int.reduceLE, Int.reduceLT, Int.reduceAdd, Int.reduceSub, Int.reduceNeg, Nat.reduceEqDiff, Nat.reduceAdd]
    rw [if_pos (by omega), mset_self]
    intro j
    rw [if_neg (by omega)]
  | d + 1, n + 1, x, M, hx, hn => by
    have ih := fun M => kp_L (kx := kx) d n (x + 1) M (by omega) (by omega)
    rw [sd_X9_keep_L2]
    unfold d_X9_keep_L2_body
    simp (disch := first | omega | (unfold sm; omega)) only [wq_bd, wq_some, wq_bnd, wq_ite, bnd_e, bd_some, lit_, neg_I, I_lt, I_le, I_eq, I_add, I_sub, I_mul, I_clamp, chk_I, wchk_I, I_succ, Int.toNat_natCast, Int.reduceToNat, b01, b01I, bd_ite, if_true, if_false, ite_self, reduceIte, Int.reduceLE, Int.reduceLT, Int.reduceAdd, Int.reduceSub, Int.reduceNeg, Nat.reduceEqDiff, Nat.reduceAdd, ih]
    rw [if_neg (by omega)]
    congr 1
    funext a b
    simp only [mset_a, mup_a]
    by_cases ha : a = 146
    · simp only [ha, if_true, show ((144 : Nat) = 146) = False from by decide, if_false]
      by_cases hb : b = x
      · subst hb
        rw [if_neg (by omega), if_pos rfl, if_pos (by omega)]
      · by_cases hb2 : x + 1 ≤ b ∧ b < 366
        · rw [if_pos hb2, if_pos (by omega)]
        · rw [if_neg hb2, if_neg hb, if_neg (by omega)]
    · simp only [ha, if_false]
  | _, 0, _, _, _, hn => absurd hn (by omega)
theorem rst_L {kx : Mem → Ans} : ∀ (d n x : Nat) (M : Mem), x + d = 366 → d < n → d_X9_restore_L16 kx n (I x) M = kx (mset M 144 (fun j => if x ≤ j ∧ j < 366 then M 146 j else M 144 j))
  | 0, n + 1, x, M, hx, hn => by
    rw [sd_X9_restore_L16]
    unfold d_X9_restore_L16_body
    simp (disch := first | omega | (unfold sm; omega)) only [wq_bd, wq_some, wq_bnd, wq_ite, bnd_e, bd_some, lit_, neg_I, I_lt, I_le, I_eq, I_add, I_sub, I_mul, I_clamp, chk_I, wchk_I, I_succ, Int.toNat_natCast, Int.reduceToNat, b01, b01I, bd_ite, if_true, if_false, ite_self, reduceIte, Int.reduceLE, Int.reduceLT, Int.reduceAdd, Int.reduceSub, Int.reduceNeg, Nat.reduceEqDiff, Nat.reduceAdd]
    rw [if_pos (by omega), mset_self]
    intro j
    rw [if_neg (by omega)]
  | d + 1, n + 1, x, M, hx, hn => by
    have ih := fun M => rst_L (kx := kx) d n (x + 1) M (by omega) (by omega)
    rw [sd_X9_restore_L16]
    unfold d_X9_restore_L16_body
    simp (disch := first | omega | (unfold sm; omega)) only [wq_bd, wq_some, wq_bnd, wq_ite, bnd_e, bd_some, lit_, neg_I, I_lt, I_le, I_eq, I_add, I_sub, I_mul, I_clamp, chk_I, wchk_I, I_succ, Int.toNat_natCast, Int.reduceToNat, b01, b01I, bd_ite, if_true, if_false, ite_self, reduceIte, Int.reduceLE, Int.reduceLT, Int.reduceAdd, Int.reduceSub, Int.reduceNeg, Nat.reduceEqDiff, Nat.reduceAdd, ih]
    rw [if_neg (by omega)]
    congr 1
    funext a b
    simp only [mset_a, mup_a]
    by_cases ha : a = 144
    · simp only [ha, if_true, show ((146 : Nat) = 144) = False from by decide, if_false]
      by_cases hb : b = x
      · subst hb
        rw [if_neg (by omega), if_pos rfl, if_pos (by omega)]
      · by_cases hb2 : x + 1 ≤ b ∧ b < 366
        · rw [if_pos hb2, if_pos (by omega)]
        · rw [if_neg hb2, if_neg hb, if_neg (by omega)]
    · simp only [ha, if_false]
  | _, 0, _, _, _, hn => absurd hn (by omega)
theorem trades_L {kx : Mem → Ans} : ∀ (d n x : Nat) (M : Mem), x + d = 366 → d < n → d_X9_trades_L2 kx n (I x) M = kx (mset (mset M 144 (fun j => if x ≤ j ∧ j < 366 then M 147 j else M 144 j)) 147 (fun j => if x ≤ j ∧ j < 366 then M 144 j else M 147 j))
  | 0, n + 1, x, M, hx, hn => by
    rw [sd_X9_trades_L2]
    unfold d_X9_trades_L2_body
    simp (disch := first | omega | (unfold sm; omega)) only [wq_bd, wq_some, wq_bnd, wq_ite, bnd_e, bd_some, lit_, neg_I, I_lt, I_le, I_eq, I_add, I_sub, I_mul, I_clamp, chk_I, wchk_I, I_succ, Int.toNat_natCast, Int.reduceToNat, b01, b01I, bd_ite, if_true, if_false, ite_self, reduceIte, Int.reduceLE, Int.reduceLT, Int.reduceAdd, Int.reduceSub, Int.reduceNeg, Nat.reduceEqDiff, Nat.reduceAdd]
    rw [if_pos (by omega), mset_self M 144, mset_self]
    · intro j
      rw [if_neg (by omega)]
    · intro j
      rw [if_neg (by omega)]
  | d + 1, n + 1, x, M, hx, hn => by
    have ih := fun M => trades_L (kx := kx) d n (x + 1) M (by omega) (by omega)
    rw [sd_X9_trades_L2]
    unfold d_X9_trades_L2_body
    simp (disch := first | omega | (unfold sm; omega)) only [wq_bd, wq_some, wq_bnd, wq_ite, bnd_e, bd_some, lit_, neg_I, I_lt, I_le, I_eq, I_add, I_sub, I_mul, I_clamp, chk_I, wchk_I, I_succ, Int.toNat_natCast, Int.reduceToNat, b01, b01I, bd_ite, if_true, if_false, ite_self, reduceIte, Int.reduceLE, Int.reduceLT, Int.reduceAdd, Int.reduceSub, Int.reduceNeg, Nat.reduceEqDiff, Nat.reduceAdd, ih]
    rw [if_neg (by omega)]
    congr 1
    funext a b
    simp only [mset_a, mup_a]
    by_cases ha : a = 147
    · simp only [ha, if_true, show ((147 : Nat) = 144) = False from by decide, show ((144 : Nat) = 147) = False from by decide, if_false]
      by_cases hb : b = x
      · subst hb
        rw [if_neg (by omega), if_pos rfl, if_pos (by omega)]
      · by_cases hb2 : x + 1 ≤ b ∧ b < 366
        · rw [if_pos hb2, if_neg hb, if_pos (by omega)]
        · rw [if_neg hb2, if_neg hb, if_neg (by omega)]
    · by_cases ha2 : a = 144
      · simp only [ha2, if_true, show ((147 : Nat) = 144) = False from by decide, show ((144 : Nat) = 147) = False from by decide, if_false]
        by_cases hb : b = x
        · subst hb
          rw [if_neg (by omega), if_pos rfl, if_pos (by omega)]
        · by_cases hb2 : x + 1 ≤ b ∧ b < 366
          · rw [if_pos hb2, if_neg hb, if_pos (by omega)]
          · rw [if_neg hb2, if_neg hb, if_neg (by omega)]
      · simp only [ha, ha2, if_false]
  | _, 0, _, _, _, hn => absurd hn (by omega)
theorem und_L {kx : Mem → Ans} {K : Nat} (hK : K < 4) : ∀ (d n x : Nat) (M : Mem), x + d = 366 → d < n → M 143 2 = I K → d_X9_undo_L22 kx n (I x) M = kx (mset M 144 (fun j => if x ≤ j ∧ j < 366 then M 145 (366 * K + j) else M 144 j))
  | 0, n + 1, x, M, hx, hn, h2 => by
    rw [sd_X9_undo_L22]
    unfold d_X9_undo_L22_body
    simp (disch := first | omega | (unfold sm; omega)) only [wq_bd, wq_some, wq_bnd, wq_ite, bnd_e, bd_some, lit_, neg_I, I_lt, I_le, I_eq, I_add, I_sub, I_mul, I_clamp, chk_I, wchk_I, I_succ, Int.toNat_natCast, Int.reduceToNat, b01, b01I, bd_ite, if_true, if_false, ite_self, reduceIte, Int.reduceLE, Int.reduceLT, Int.reduceAdd, Int.reduceSub, Int.reduceNeg, Nat.reduceEqDiff, Nat.reduceAdd]
    rw [if_pos (by omega), mset_self]
    intro j
    rw [if_neg (by omega)]
  | d + 1, n + 1, x, M, hx, hn, h2 => by
    have ih := fun v => und_L (kx := kx) hK d n (x + 1) (mup M 144 x v) (by omega) (by omega) (by rw [mup_n (by decide)]; exact h2)
    rw [sd_X9_undo_L22]
    unfold d_X9_undo_L22_body
    rw [h2]
    simp (disch := first | omega | (unfold sm; omega)) only [wq_bd, wq_some, wq_bnd, wq_ite, bnd_e, bd_some, lit_, neg_I, I_lt, I_le, I_eq, I_add, I_sub, I_mul, I_clamp, chk_I, wchk_I, I_succ, Int.toNat_natCast, Int.reduceToNat, b01, b01I, bd_ite, if_true, if_false, ite_self, reduceIte, Int.reduceLE, Int.reduceLT, Int.reduceAdd, Int.reduceSub, Int.reduceNeg, Nat.reduceEqDiff, Nat.reduceAdd, ih]
    rw [if_neg (by omega)]
    congr 1
    funext a b
    simp only [mset_a, mup_a]
    by_cases ha : a = 144
    · simp only [ha, if_true, show ((145 : Nat) = 144) = False from by decide, if_false]
      by_cases hb : b = x
      · subst hb
        rw [if_neg (by omega), if_pos rfl, if_pos (by omega)]
        congr 1 <;> omega
      · by_cases hb2 : x + 1 ≤ b ∧ b < 366
        · rw [if_pos hb2, if_pos (by omega)]
        · rw [if_neg hb2, if_neg hb, if_neg (by omega)]
    · simp only [ha, if_false]
  | _, 0, _, _, _, hn, _ => absurd hn (by omega)
theorem goes_e (M : Mem) : d_X9_goes M = some (0, mset M 147 (fun j => if 0 ≤ j ∧ j < 366 then M 144 j else M 147 j)) := by
  unfold d_X9_goes
  rw [show (0 : Int32) = I ((0 : Nat) : Int) from rfl, goes_L 366 fuelN 0 M (by omega) (by unfold fuelN; omega)]
theorem comes_e (M : Mem) : d_X9_comes M = some (0, mset M 144 (fun j => if 0 ≤ j ∧ j < 366 then M 147 j else M 144 j)) := by
  unfold d_X9_comes
  rw [show (0 : Int32) = I ((0 : Nat) : Int) from rfl, comes_L 366 fuelN 0 M (by omega) (by unfold fuelN; omega)]
theorem trades_e (M : Mem) : d_X9_trades M = some (0, mset (mset M 144 (fun j => if 0 ≤ j ∧ j < 366 then M 147 j else M 144 j)) 147 (fun j => if 0 ≤ j ∧ j < 366 then M 144 j else M 147 j)) := by
  unfold d_X9_trades
  rw [show (0 : Int32) = I ((0 : Nat) : Int) from rfl, trades_L 366 fuelN 0 M (by omega) (by unfold fuelN; omega)]
/-! both sides stand for one abstract object -/
abbrev Ab : Type := St × List St × Option St × List Int32
def snC (M : Mem) (o : Option St) : Prop := match o with | none => M 141 3 = I 0 | some q => M 141 3 = I 1 ∧ cv 2 M q
def snR (M : Mem) (o : Option St) : Prop := match o with | none => M 143 4 = I 0 | some q => M 143 4 = I 1 ∧ rv (M 146) q
def txC (M : Mem) (T : List Int32) : Prop := M 136 1 = I T.length ∧ ∀ j c, T[j]? = some c → M 137 j = c
def txR (M : Mem) (T : List Int32) : Prop := M 143 18 = I T.length ∧ ∀ j c, T[j]? = some c → M 153 j = c
def scR (M : Mem) : Prop := M 143 11 = I (-1) ∧ M 143 13 = I (-1) ∧ M 143 14 = I (-1)
def CSt (M : Mem) (A : Ab) : Prop := cv 0 M A.1 ∧ CHist M A.2.1 ∧ snC M A.2.2.1 ∧ txC M A.2.2.2
def RSt (M : Mem) (A : Ab) : Prop := rv (M 144) A.1 ∧ RHist M A.2.1 ∧ snR M A.2.2.1 ∧ txR M A.2.2.2 ∧ scR M
def cOk (c : Int32) : Prop := narrow .char (.int c) = .int c
def AInv (A : Ab) : Prop := SInv A.1 ∧ (∀ q ∈ A.2.1, SInv q) ∧ (∀ q, A.2.2.1 = some q → SInv q) ∧ A.2.2.2.length ≤ 60 ∧ ∀ c ∈ A.2.2.2, cOk c
theorem CHist_congr {M M1 : Mem} {l : List St} (h : CHist M l) (e : ∀ i, (48 ≤ i ∧ i < 112) ∨ i = 134 ∨ i = 135 → M1 i = M i) : CHist M1 l := by
  obtain ⟨h1, h2, p, hp, hinj, hs⟩ := h
  refine ⟨by rw [e 134 (by omega)]; exact h1, h2, p, fun j hj => by rw [e 135 (by omega)]; exact hp j hj, hinj, fun j s hj => ?_⟩
  have hl := (List.getElem?_eq_some_iff.mp hj).1
  have hb := (hp j (by omega)).2
  exact cv_congr (hs j s hj) (fun q hq => e _ (by unfold sI; omega))
theorem snC_congr {M M1 : Mem} {o : Option St} (h : snC M o) (e : ∀ i, (32 ≤ i ∧ i < 48) ∨ i = 141 → M1 i = M i) : snC M1 o := by
  cases o with
  | none => exact (congrFun (e 141 (by omega)) 3).trans h
  | some q => exact ⟨(congrFun (e 141 (by omega)) 3).trans h.1, cv_congr h.2 (fun j hj => e _ (by unfold sI; omega))⟩
theorem txC_congr {M M1 : Mem} {T : List Int32} (h : txC M T) (e : ∀ i, i = 136 ∨ i = 137 → M1 i = M i) : txC M1 T :=
  ⟨(congrFun (e 136 (by omega)) 1).trans h.1, fun j c hc => (congrFun (e 137 (by omega)) j).trans (h.2 j c hc)⟩
theorem CSt_fr {M M1 : Mem} {A : Ab} (h : CSt M A) (e : ∀ i, i < 16 ∨ (32 ≤ i ∧ i < 112) ∨ (134 ≤ i ∧ i < 138) ∨ i = 141 → M1 i = M i) : CSt M1 A :=
  ⟨cv_congr h.1 (fun j hj => e _ (by unfold sI; omega)), CHist_congr h.2.1 (fun i hi => e i (by omega)), snC_congr h.2.2.1 (fun i hi => e i (by omega)), txC_congr h.2.2.2 (fun i hi => e i (by omega))⟩
/-- another state now, and perhaps another history -/
theorem CSt_upd {M M1 : Mem} {s s' : St} {l l' : List St} {o : Option St} {T : List Int32} (h : CSt M (s, l, o, T)) (hc : cv 0 M1 s') (hl : CHist M1 l') (e : ∀ i, (32 ≤ i ∧ i < 48) ∨ (136 ≤ i ∧ i < 138) ∨ i = 141 → M1 i = M i) : CSt M1 (s', l', o, T) :=
  ⟨hc, hl, snC_congr h.2.2.1 (fun i hi => e i (by omega)), txC_congr h.2.2.2 (fun i hi => e i (by omega))⟩
theorem RHist_congr {M M1 : Mem} {l : List St} (h : RHist M l) (e : M1 143 2 = M 143 2) (e2 : M1 145 = M 145) : RHist M1 l := by
  obtain ⟨h1, h2, h3⟩ := h
  exact ⟨by rw [e]; exact h1, h2, fun j s hj => by rw [e2]; exact h3 j s hj⟩
theorem snR_congr {M M1 : Mem} {o : Option St} (h : snR M o) (e : M1 143 4 = M 143 4) (e2 : M1 146 = M 146) : snR M1 o := by
  cases o with
  | none => exact e.trans h
  | some q => exact ⟨e.trans h.1, by rw [e2]; exact h.2⟩
theorem txR_congr {M M1 : Mem} {T : List Int32} (h : txR M T) (e : M1 143 18 = M 143 18) (e2 : M1 153 = M 153) : txR M1 T :=
  ⟨e.trans h.1, fun j c hc => by rw [e2]; exact h.2 j c hc⟩
theorem scR_congr {M M1 : Mem} (h : scR M) (e : ∀ j, 11 ≤ j → j ≤ 14 → M1 143 j = M 143 j) : scR M1 :=
  ⟨(e 11 (by omega) (by omega)).trans h.1, (e 13 (by omega) (by omega)).trans h.2.1, (e 14 (by omega) (by omega)).trans h.2.2⟩
theorem RSt_upd {M M1 : Mem} {s s' : St} {l l' : List St} {o : Option St} {T : List Int32} (h : RSt M (s, l, o, T)) (hc : rv (M1 144) s') (hl : RHist M1 l') (e : ∀ j, j = 4 ∨ j = 18 ∨ (11 ≤ j ∧ j ≤ 14) → M1 143 j = M 143 j) (e1 : M1 146 = M 146) (e2 : M1 153 = M 153) : RSt M1 (s', l', o, T) :=
  ⟨hc, hl, snR_congr h.2.2.1 (e 4 (by omega)) e1, txR_congr h.2.2.2.1 (e 18 (by omega)) e2, scR_congr h.2.2.2.2 (fun j h1 h2 => e j (by omega))⟩
theorem RSt_fr {M M1 : Mem} {A : Ab} (h : RSt M A) (e : ∀ i, i = 144 ∨ i = 145 ∨ i = 146 ∨ i = 153 → M1 i = M i) (e2 : ∀ j, j = 2 ∨ j = 4 ∨ j = 18 ∨ (11 ≤ j ∧ j ≤ 14) → M1 143 j = M 143 j) : RSt M1 A :=
  RSt_upd (s := A.1) (l := A.2.1) (o := A.2.2.1) (T := A.2.2.2) h (by rw [e 144 (by omega)]; exact h.1) (RHist_congr h.2.1 (e2 2 (by omega)) (e 145 (by omega))) (fun j hj => e2 j (by omega)) (e 146 (by omega)) (e 153 (by omega))
/-- one answer on both sides, and one abstract object behind it -/
def Both (oc orr : Mem → Ans) : Prop := ∀ A, AInv A → ∃ r A', AInv A' ∧ (∀ M, CSt M A → wp (oc M) (fun x M1 => x = r ∧ CSt M1 A')) ∧ ∀ M, RSt M A → wp (orr M) (fun y M2 => y = r ∧ RSt M2 A')
theorem Both_q {oc orr : Mem → Ans} (h : ∀ S W l o T, AInv ((S, W), l, o, T) → ∃ r, (∀ M, CSt M ((S, W), l, o, T) → wp (oc M) (fun x M1 => x = r ∧ CSt M1 ((S, W), l, o, T))) ∧ ∀ M, RSt M ((S, W), l, o, T) → wp (orr M) (fun y M2 => y = r ∧ RSt M2 ((S, W), l, o, T))) : Both oc orr := by
  intro A hA
  obtain ⟨⟨S, W⟩, l, o, T⟩ := A
  obtain ⟨r, h1, h2⟩ := h S W l o T hA
  exact ⟨r, _, hA, h1, h2⟩
theorem AInv_push {s s' : St} {l : List St} {o : Option St} {T : List Int32} (h : AInv (s, l, o, T)) (hs : SInv s') : AInv (s', pushH l s, o, T) := by
  obtain ⟨h1, h2, h3⟩ := h
  refine ⟨hs, fun q hq => ?_, h3⟩
  unfold pushH at hq
  rcases List.mem_append.mp hq with hq | hq
  · by_cases h4 : l.length = 4
    · rw [if_pos h4] at hq
      exact h2 q (List.mem_of_mem_drop hq)
    · rw [if_neg h4] at hq
      exact h2 q hq
  · rw [List.mem_singleton.mp hq]
    exact h1
theorem AInv_s {s s' : St} {l : List St} {o : Option St} {T : List Int32} (h : AInv (s, l, o, T)) (hs : SInv s') : AInv (s', l, o, T) := ⟨hs, h.2⟩
/-- a push of the class, and what it leaves -/
theorem cpush {M : Mem} {s : St} {l : List St} {o : Option St} {T : List Int32} (hA : AInv (s, l, o, T)) (h : CSt M (s, l, o, T)) {Q : Int32 → Mem → Prop} (k : ∀ r M1, CSt M1 (s, pushH l s, o, T) → Q r M1) : wp (d_X2_push 0 M) Q := by
  refine wp_mono (push_spec (by decide) h.2.1 hA.1.2.2.2.2.2.2.1 h.1) (fun r M1 q => k r M1 ?_)
  exact CSt_upd h (cv_congr h.1 (fun j hj => q.2 _ (by unfold sI; omega))) q.1 (fun i hi => q.2 i (by omega))
theorem rpush {M : Mem} {s : St} {l : List St} {o : Option St} {T : List Int32} (hA : AInv (s, l, o, T)) (h : RSt M (s, l, o, T)) {Q : Int32 → Mem → Prop} (k : ∀ r M1, RSt M1 (s, pushH l s, o, T) → (∀ i, i ≠ 143 → i ≠ 145 → M1 i = M i) → Q r M1) : wp (d_X9_record M) Q := by
  refine wp_mono (record_spec h.2.1 (fun q hq => (hA.2.1 q hq).2.2.2.2.2.2.1) hA.1.2.2.2.2.2.2.1 h.1) (fun r M1 q => k r M1 ?_ q.2.2.1)
  exact RSt_upd h (by rw [q.2.2.1 144 (by decide) (by decide)]; exact h.1) q.2.1 (fun j hj => q.2.2.2 j (by omega)) (q.2.2.1 146 (by decide) (by decide)) (q.2.2.1 153 (by decide) (by decide))
