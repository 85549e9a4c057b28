/-! the forecast: pressure, what was taken, and for each booking its end, the tick of its spoiling (0: none), its least spare (99999: none), its drawn -/
abbrev Ce : Type := Int × Int × Int × Int
abbrev Fc : Type := Int × Int × (Nat → Ce)
def setC (D : Nat → Ce) (b : Nat) (c : Ce) : Nat → Ce := fun x => if x = b then c else D x
theorem setC_s {D : Nat → Ce} {b : Nat} {c : Ce} : setC D b c b = c := if_pos rfl
theorem setC_n {D : Nat → Ce} {b x : Nat} {c : Ce} (h : x ≠ b) : setC D b c x = D x := if_neg h
/-- whether a booking is asked in a tick -/
abbrev askP (S : Nat → Int) (t : Int) (D : Nat → Ce) (b : Nat) : Prop := (D b).1 ≤ 1 ∧ S (44 + 5 * b) ≤ t ∧ t ≤ S (44 + 5 * b) + S (12 + 4 * rcN S b) - 1
def askC (S : Nat → Int) (t : Int) (p : Int) (c : Ce) (b : Nat) : Ce :=
  if p < S (10 + 4 * rcN S b) then (3, t, min c.2.2.1 (p - S (10 + 4 * rcN S b)), c.2.2.2)
  else ((if t = S (44 + 5 * b) + S (12 + 4 * rcN S b) - 1 then 2 else 1), c.2.1, min c.2.2.1 (p - S (10 + 4 * rcN S b)), c.2.2.2 + 1)
def askT (S : Nat → Int) (p : Int) (b : Nat) : Int := if p < S (10 + 4 * rcN S b) then 0 else min (S (11 + 4 * rcN S b)) p
def askS (S : Nat → Int) (t : Int) (F : Fc) (b : Nat) : Fc :=
  if askP S t F.2.2 b then (F.1 - askT S F.1 b, F.2.1 + askT S F.1 b, setC F.2.2 b (askC S t F.1 (F.2.2 b) b)) else F
def tickS (S : Nat → Int) (ps : List Nat) (t : Int) (F : Fc) : Fc := ps.foldl (askS S t) (min (S 2) (F.1 + S 3), F.2)
def D0 (S : Nat → Int) (b : Nat) : Ce := if (b : Int) < S 5 then (S (45 + 5 * b), 0, 99999, S (46 + 5 * b)) else (0, 0, 99999, 0)
def runS (S : Nat → Int) (ps : List Nat) : Nat → Fc
  | 0 => (S 1, 0, D0 S)
  | n + 1 => tickS S ps (S 0 + n + 1) (runS S ps n)
/-- who takes part, and that what they need is there -/
def ScOk (S : Nat → Int) (ps : List Nat) : Prop := (0 ≤ S 0 ∧ S 0 ≤ 9000) ∧ (0 ≤ S 1 ∧ S 1 ≤ S 2) ∧ (100 ≤ S 2 ∧ S 2 ≤ 3000) ∧ (0 ≤ S 3 ∧ S 3 ≤ 300) ∧ (0 ≤ S 4 ∧ S 4 ≤ 8) ∧ (0 ≤ S 5 ∧ S 5 ≤ 60) ∧ (∀ b ∈ ps, b ≤ 60 ∧ S (43 + 5 * b) = (rcN S b : Int) ∧ (rcN S b : Int) < S 4 ∧ rcOk S (rcN S b) ∧ (1 ≤ S (44 + 5 * b) ∧ S (44 + 5 * b) ≤ 9060) ∧ (0 ≤ (D0 S b).1 ∧ (D0 S b).1 ≤ 1)) ∧ ps.Nodup ∧ ps.length ≤ 61
/-- what holds of a forecast behind tick t -/
def ceOk (S : Nat → Int) (t : Int) (b : Nat) (c : Ce) : Prop := (0 ≤ c.1 ∧ c.1 ≤ 3) ∧ (0 ≤ c.2.1 ∧ c.2.1 ≤ t) ∧ (c.2.2.1 = 99999 ∨ (-3000 ≤ c.2.2.1 ∧ c.2.2.1 ≤ 3000)) ∧ (c.1 = 3 ↔ 0 < c.2.1) ∧ (c.1 = 2 → S (44 + 5 * b) + S (12 + 4 * rcN S b) - 1 ≤ t)
def FI (S : Nat → Int) (ps : List Nat) (t : Int) (F : Fc) : Prop := (0 ≤ F.1 ∧ F.1 ≤ 3000) ∧ ∀ b ∈ ps, ceOk S t b (F.2.2 b)
theorem ask_FI {S : Nat → Int} {ps : List Nat} (hs : ScOk S ps) {t : Int} (ht : 1 ≤ t) {F : Fc} (hF : FI S ps t F) {b : Nat} (hb : b ∈ ps) : FI S ps t (askS S t F b) := by
  obtain ⟨h1, h2⟩ := hF
  unfold askS
  by_cases c : askP S t F.2.2 b
  · rw [if_pos c]
    obtain ⟨-, -, -, hr, -, -⟩ := hs.2.2.2.2.2.2.1 b hb
    unfold rcOk at hr
    obtain ⟨c1, c2, c3⟩ := c
    have h2b := h2 b hb
    refine ⟨?_, fun x hx => ?_⟩
    · dsimp only
      unfold askT
      split <;> omega
    · dsimp only
      by_cases e : x = b
      · subst e
        rw [setC_s]
        unfold ceOk at h2b ⊢
        unfold askC
        by_cases d : F.1 < S (10 + 4 * rcN S x)
        · rw [if_pos d]
          dsimp only
          omega
        · rw [if_neg d]
          dsimp only
          by_cases d2 : t = S (44 + 5 * x) + S (12 + 4 * rcN S x) - 1
          · rw [if_pos d2]
            omega
          · rw [if_neg d2]
            omega
      · rw [setC_n e]
        exact h2 x hx
  · rw [if_neg c]
    exact ⟨h1, h2⟩
theorem fold_FI {S : Nat → Int} {ps : List Nat} (hs : ScOk S ps) {t : Int} (ht : 1 ≤ t) : ∀ (l : List Nat) (F : Fc), (∀ b ∈ l, b ∈ ps) → FI S ps t F → FI S ps t (l.foldl (askS S t) F)
  | [], F, _, hF => hF
  | b :: l, F, hl, hF => fold_FI hs ht l _ (fun x hx => hl x (List.mem_cons_of_mem _ hx)) (ask_FI hs ht hF (hl b (List.mem_cons_self)))
theorem FI_up {S : Nat → Int} {ps : List Nat} (hs : ScOk S ps) {t : Int} {F : Fc} (hF : FI S ps t F) : FI S ps (t + 1) (min (S 2) (F.1 + S 3), F.2) := by
  obtain ⟨h1, h2⟩ := hF
  obtain ⟨g0, g1, g2, g3, -⟩ := hs
  refine ⟨by dsimp only; omega, fun b hb => ?_⟩
  have := h2 b hb
  unfold ceOk at this ⊢
  dsimp only
  omega
theorem run_FI {S : Nat → Int} {ps : List Nat} (hs : ScOk S ps) : ∀ n : Nat, FI S ps (S 0 + n) (runS S ps n)
  | 0 => by
    obtain ⟨g0, g1, g2, g3, g4, g5, g6, -⟩ := hs
    refine ⟨by unfold runS; dsimp only; omega, fun b hb => ?_⟩
    have := (g6 b hb).2.2.2.2.2
    unfold ceOk runS
    dsimp only
    have e1 : (D0 S b).2.1 = 0 := by unfold D0; split <;> rfl
    have e2 : (D0 S b).2.2.1 = 99999 := by unfold D0; split <;> rfl
    rw [e1, e2]
    omega
  | n + 1 => by
    have ih := run_FI hs n
    have h := fold_FI hs (t := S 0 + n + 1) (by have := hs.1; omega) ps _ (fun b hb => hb) (FI_up hs ih)
    rw [show (S 0 + ((n + 1 : Nat) : Int)) = S 0 + n + 1 by omega]
    exact h
/-- who takes no part stays as he was -/
theorem fold_out {S : Nat → Int} {t : Int} {b : Nat} : ∀ (l : List Nat) (F : Fc), b ∉ l → (l.foldl (askS S t) F).2.2 b = F.2.2 b
  | [], F, _ => rfl
  | x :: l, F, h => by
    rw [List.foldl_cons, fold_out l _ (fun hh => h (List.mem_cons_of_mem _ hh))]
    unfold askS
    split
    · exact setC_n (fun e => h (e ▸ List.mem_cons_self))
    · rfl
theorem run_out {S : Nat → Int} {ps : List Nat} {b : Nat} (h : b ∉ ps) : ∀ n : Nat, (runS S ps n).2.2 b = D0 S b
  | 0 => rfl
  | n + 1 => by
    show (tickS S ps _ (runS S ps n)).2.2 b = _
    unfold tickS
    rw [fold_out ps _ h]
    exact run_out h n
/-- nobody left: nothing changes but the pressure -/
theorem fold_closed {S : Nat → Int} {t : Int} : ∀ (l : List Nat) (F : Fc), (∀ b ∈ l, 1 < (F.2.2 b).1) → l.foldl (askS S t) F = F
  | [], F, _ => rfl
  | x :: l, F, h => by
    have e : askS S t F x = F := by
      unfold askS
      rw [if_neg]
      intro hp
      have := h x List.mem_cons_self
      have := hp.1
      omega
    rw [List.foldl_cons, e]
    exact fold_closed l F (fun b hb => h b (List.mem_cons_of_mem _ hb))
theorem run_closed {S : Nat → Int} {ps : List Nat} {n : Nat} (h : ∀ b ∈ ps, 1 < ((runS S ps n).2.2 b).1) : ∀ k : Nat, (runS S ps (n + k)).2 = (runS S ps n).2
  | 0 => rfl
  | k + 1 => by
    have ih := run_closed h k
    show (tickS S ps _ (runS S ps (n + k))).2 = _
    unfold tickS
    rw [fold_closed ps _ (by dsimp only; rw [ih]; exact h)]
    exact ih
def opn (ps : List Nat) (D : Nat → Ce) : Nat := ps.countP (fun b => decide ((D b).1 ≤ 1))
theorem opn_set {D : Nat → Ce} {b : Nat} {c : Ce} : ∀ ps : List Nat, ps.Nodup → b ∈ ps → (D b).1 ≤ 1 → opn ps D = opn ps (setC D b c) + if c.1 ≤ 1 then 0 else 1
  | [], _, hb, _ => by cases hb
  | x :: l, hn, hb, hd => by
    have hn2 := List.nodup_cons.mp hn
    unfold opn
    rw [List.countP_cons, List.countP_cons]
    by_cases e : x = b
    · subst e
      have e2 : l.countP (fun b => decide ((setC D x c b).1 ≤ 1)) = l.countP (fun b => decide ((D b).1 ≤ 1)) := by
        refine List.countP_congr (fun y hy => ?_)
        rw [setC_n (fun h : y = x => hn2.1 (by rw [← h]; exact hy))]
      rw [e2, setC_s, if_pos (decide_eq_true hd)]
      by_cases h : c.1 ≤ 1
      · rw [if_pos h, if_pos (decide_eq_true h)]
      · rw [if_neg h, if_neg (by rw [decide_eq_false h]; decide)]
    · have hb' : b ∈ l := by
        rcases List.mem_cons.mp hb with h | h
        · exact absurd h.symm e
        · exact h
      have ih := opn_set (c := c) l hn2.2 hb' hd
      unfold opn at ih
      rw [setC_n e, ih]
      omega
theorem opn_0 {ps : List Nat} {D : Nat → Ce} (h : opn ps D = 0) : ∀ b ∈ ps, 1 < (D b).1 := by
  intro b hb
  have := List.countP_eq_zero.mp h b hb
  rw [decide_eq_true_iff] at this
  omega
/-! the class's course -/
def nmS (S : Nat → Int) (b : Nat) : Int := if b = 60 then S 5 else b
def lsC (x : Int) : Int := if x = 99999 then 1000000 else x
def spC (x : Int) : Int := if x = 0 then -5 else x
def rowC (c : Nat) (M : Mem) (S : Nat → Int) (e : Ce) (r b : Nat) : Prop :=
  (M (cI c 1) r = I (nmS S b) ∧ M (cI c 6) r = I (S (10 + 4 * rcN S b)) ∧ M (cI c 7) r = I (S (11 + 4 * rcN S b)) ∧ M (cI c 8) r = I (S (44 + 5 * b)) ∧ M (cI c 9) r = I (S (44 + 5 * b) + S (12 + 4 * rcN S b) - 1)) ∧
  M (cI c 2) r = I e.1 ∧ M (cI c 3) r = I e.2.2.2 ∧ M (cI c 4) r = I (spC e.2.1) ∧ M (cI c 5) r = I (lsC e.2.2.1)
def crs (c : Nat) (M : Mem) (S : Nat → Int) (ps : List Nat) (t low o : Int) (F : Fc) : Prop :=
  (M (cI c 0) 0 = I t ∧ M (cI c 0) 1 = I F.1 ∧ M (cI c 0) 2 = I (S 2) ∧ M (cI c 0) 3 = I (S 3) ∧ M (cI c 0) 4 = I low ∧ M (cI c 0) 5 = I F.2.1 ∧ M (cI c 0) 6 = I ps.length ∧ M (cI c 0) 7 = I o) ∧
  ∀ r b, ps[r]? = some b → rowC c M S (F.2.2 b) r b
theorem cI_nm {c a b : Nat} (h : a ≠ b) : cI c a ≠ cI c b := fun e => h (by unfold cI at e; omega)
theorem row_ne {ps : List Nat} (hn : ps.Nodup) {r x a b : Nat} (h1 : ps[r]? = some a) (h2 : ps[x]? = some b) (h : r ≠ x) : a ≠ b := by
  intro e
  subst e
  have hr := (List.getElem?_eq_some_iff.mp h1).1
  exact h ((List.getElem?_inj hr hn).mp (h1.trans h2.symm))
theorem rowC_congr {c : Nat} {M M1 : Mem} {S : Nat → Int} {e : Ce} {r b : Nat} (h : rowC c M S e r b) (k : ∀ j, 1 ≤ j → j < 10 → M1 (cI c j) r = M (cI c j) r) : rowC c M1 S e r b := by
  unfold rowC
  rw [k 1 (by decide) (by decide), k 2 (by decide) (by decide), k 3 (by decide) (by decide), k 4 (by decide) (by decide), k 5 (by decide) (by decide), k 6 (by decide) (by decide), k 7 (by decide) (by decide), k 8 (by decide) (by decide), k 9 (by decide) (by decide)]
  exact h
theorem upd_e {f : Nat → Int32} {k j : Nat} {v : Int32} (h : j = k) : upd f k v j = v := by rw [h]; exact upd_s
theorem draw_spec {c : Nat} {M : Mem} {S : Nat → Int} {ps : List Nat} {t low o : Int} {F : Fc} (hs : ScOk S ps) (ht : 1 ≤ t ∧ t ≤ 20000) (hF : FI S ps t F) (h : crs c M S ps t low o F) {x b : Nat} (hx : ps[x]? = some b) (ha : askP S t F.2.2 b) : wp (d_X1_drawFor c (I x) M) (fun _ M1 => crs c M1 S ps t low (if (askC S t F.1 (F.2.2 b) b).1 ≤ 1 then o else o - 1) (askS S t F b) ∧ ∀ i, i < 112 + 10 * c ∨ 122 + 10 * c ≤ i → M1 i = M i) := by
  obtain ⟨⟨n0, n1, n2, n3, n4, n5, n6, n7⟩, hrow⟩ := h
  have hx' := (List.getElem?_eq_some_iff.mp hx).1
  have hbm : b ∈ ps := List.mem_of_getElem? hx
  obtain ⟨-, h43, hrl, hr, h44, -⟩ := hs.2.2.2.2.2.2.1 b hbm
  have hnd := hs.2.2.2.2.2.2.2.1
  have hlen := hs.2.2.2.2.2.2.2.2
  have hce := hF.2 b hbm
  have hp := hF.1
  unfold ceOk at hce
  unfold rcOk at hr
  obtain ⟨⟨r1, r6, r7, r8, r9⟩, r2, r3, r4, r5⟩ := hrow x b hx
  have hls : -3000 ≤ lsC (F.2.2 b).2.2.1 ∧ lsC (F.2.2 b).2.2.1 ≤ 1000000 := by unfold lsC; split <;> omega
  have hmin : lsC (min (F.2.2 b).2.2.1 (F.1 - S (10 + 4 * rcN S b))) = if lsC (F.2.2 b).2.2.1 ≤ F.1 - S (10 + 4 * rcN S b) then lsC (F.2.2 b).2.2.1 else F.1 - S (10 + 4 * rcN S b) := by
    unfold lsC
    by_cases z : (F.2.2 b).2.2.1 = 99999
    · rw [if_pos z, if_neg (by omega), if_neg (by omega)]; omega
    · rw [if_neg z, if_neg (by omega)]
      by_cases z2 : (F.2.2 b).2.2.1 ≤ F.1 - S (10 + 4 * rcN S b)
      · rw [if_pos z2]; omega
      · rw [if_neg z2]; omega
  -- behind the least spare
  have main : ∀ M', (∀ i, i ≠ cI c 5 → M' i = M i) → (∀ r, r ≠ x → M' (cI c 5) r = M (cI c 5) r) → M' (cI c 5) x = I (lsC (min (F.2.2 b).2.2.1 (F.1 - S (10 + 4 * rcN S b)))) → wp (d_X1_drawFor_B42 c (I x) (I (F.1 - S (10 + 4 * rcN S b))) M') (fun _ M1 => crs c M1 S ps t low (if (askC S t F.1 (F.2.2 b) b).1 ≤ 1 then o else o - 1) (askS S t F b) ∧ ∀ i, i < 112 + 10 * c ∨ 122 + 10 * c ≤ i → M1 i = M i) := by
    intro M' e1 e2 e3
    have k0 : M' (cI c 0) = M (cI c 0) := e1 _ (cI_nm (by decide))
    have k2 : M' (cI c 2) = M (cI c 2) := e1 _ (cI_nm (by decide))
    have k3 : M' (cI c 3) = M (cI c 3) := e1 _ (cI_nm (by decide))
    have k4 : M' (cI c 4) = M (cI c 4) := e1 _ (cI_nm (by decide))
    have k7 : M' (cI c 7) = M (cI c 7) := e1 _ (cI_nm (by decide))
    have k9 : M' (cI c 9) = M (cI c 9) := e1 _ (cI_nm (by decide))
    unfold d_X1_drawFor_B42 askS
    rw [if_pos ha]
    by_cases d : F.1 < S (10 + 4 * rcN S b)
    · have hC : askC S t F.1 (F.2.2 b) b = (3, t, min (F.2.2 b).2.2.1 (F.1 - S (10 + 4 * rcN S b)), (F.2.2 b).2.2.2) := by unfold askC; rw [if_pos d]
      have hT : askT S F.1 b = 0 := by unfold askT; rw [if_pos d]
      rw [hC, hT]
      simp (disch := first | omega | (unfold sm; omega)) only [wq_bd, wq_some, wq_bnd, wq_ite, bnd_e, bd_some, lit_, neg_I, I_lt, I_le, I_eq, I_add, I_sub, I_mul, I_clamp, chk_I, wchk_I, I_succ, Int.toNat_natCast, Int.reduceToNat, b01, b01I, bd_ite, if_true, if_false, ite_self, reduceIte, Int.reduceLE, Int.reduceLT, Int.reduceAdd, Int.reduceSub, Int.reduceNeg, Nat.reduceEqDiff, Nat.reduceAdd, mup_n (show cI c 0 ≠ cI c 2 from cI_nm (by decide)), mup_n (show cI c 0 ≠ cI c 4 from cI_nm (by decide)), k0, n0, n7]
      rw [if_neg (by omega)]
      refine ⟨⟨⟨?_, ?_, ?_, ?_, ?_, ?_, ?_, ?_⟩, fun r a hra => ?_⟩, fun i hi => ?_⟩
      · rw [mup_s, upd_n (by decide), mup_n (cI_nm (by decide)), mup_n (cI_nm (by decide)), k0, n0]
      · rw [mup_s, upd_n (by decide), mup_n (cI_nm (by decide)), mup_n (cI_nm (by decide)), k0, n1]; dsimp only; rw [Int.sub_zero]
      · rw [mup_s, upd_n (by decide), mup_n (cI_nm (by decide)), mup_n (cI_nm (by decide)), k0, n2]
      · rw [mup_s, upd_n (by decide), mup_n (cI_nm (by decide)), mup_n (cI_nm (by decide)), k0, n3]
      · rw [mup_s, upd_n (by decide), mup_n (cI_nm (by decide)), mup_n (cI_nm (by decide)), k0, n4]
      · rw [mup_s, upd_n (by decide), mup_n (cI_nm (by decide)), mup_n (cI_nm (by decide)), k0, n5]; dsimp only; rw [Int.add_zero]
      · rw [mup_s, upd_n (by decide), mup_n (cI_nm (by decide)), mup_n (cI_nm (by decide)), k0, n6]
      · rw [mup_s, upd_s]
      · dsimp only
        by_cases e : r = x
        · subst e
          rw [hx] at hra
          cases hra
          rw [setC_s]
          refine ⟨⟨?_, ?_, ?_, ?_, ?_⟩, ?_, ?_, ?_, ?_⟩
          · rw [mup_n (cI_nm (by decide)), mup_n (cI_nm (by decide)), mup_n (cI_nm (by decide)), e1 _ (cI_nm (by decide)), r1]
          · rw [mup_n (cI_nm (by decide)), mup_n (cI_nm (by decide)), mup_n (cI_nm (by decide)), e1 _ (cI_nm (by decide)), r6]
          · rw [mup_n (cI_nm (by decide)), mup_n (cI_nm (by decide)), mup_n (cI_nm (by decide)), e1 _ (cI_nm (by decide)), r7]
          · rw [mup_n (cI_nm (by decide)), mup_n (cI_nm (by decide)), mup_n (cI_nm (by decide)), e1 _ (cI_nm (by decide)), r8]
          · rw [mup_n (cI_nm (by decide)), mup_n (cI_nm (by decide)), mup_n (cI_nm (by decide)), e1 _ (cI_nm (by decide)), r9]
          · rw [mup_n (cI_nm (by decide)), mup_n (cI_nm (by decide)), mup_s, upd_s]
          · rw [mup_n (cI_nm (by decide)), mup_n (cI_nm (by decide)), mup_n (cI_nm (by decide)), e1 _ (cI_nm (by decide)), r3]
          · rw [mup_n (cI_nm (by decide)), mup_s, upd_s]; unfold spC; rw [if_neg (by dsimp only; omega)]
          · rw [mup_n (cI_nm (by decide)), mup_n (cI_nm (by decide)), mup_n (cI_nm (by decide)), e3]
        · rw [setC_n (row_ne hnd hra hx e)]
          refine rowC_congr (hrow r a hra) (fun j h1 h2 => ?_)
          rw [mup_n (cI_nm (by omega))]
          by_cases j4 : j = 4
          · subst j4; rw [mup_s, upd_n e, mup_n (cI_nm (by decide)), k4]
          · rw [mup_n (cI_nm j4)]
            by_cases j2 : j = 2
            · subst j2; rw [mup_s, upd_n e, k2]
            · rw [mup_n (cI_nm j2)]
              by_cases j5 : j = 5
              · subst j5; exact e2 r e
              · rw [e1 _ (cI_nm j5)]
      · rw [mup_n (by unfold cI; omega), mup_n (by unfold cI; omega), mup_n (by unfold cI; omega), e1 _ (by unfold cI; omega)]
    · have hC : askC S t F.1 (F.2.2 b) b = ((if t = S (44 + 5 * b) + S (12 + 4 * rcN S b) - 1 then 2 else 1), (F.2.2 b).2.1, min (F.2.2 b).2.2.1 (F.1 - S (10 + 4 * rcN S b)), (F.2.2 b).2.2.2 + 1) := by unfold askC; rw [if_neg d]
      have hT : askT S F.1 b = min (S (11 + 4 * rcN S b)) F.1 := by unfold askT; rw [if_neg d]
      rw [hC, hT]
      -- behind what it takes
      have main2 : ∀ tk, tk = min (S (11 + 4 * rcN S b)) F.1 → wp (d_X1_drawFor_B100 c (I x) (I tk) M') (fun _ M1 => crs c M1 S ps t low (if (((if t = S (44 + 5 * b) + S (12 + 4 * rcN S b) - 1 then 2 else 1), (F.2.2 b).2.1, min (F.2.2 b).2.2.1 (F.1 - S (10 + 4 * rcN S b)), (F.2.2 b).2.2.2 + 1) : Ce).1 ≤ 1 then o else o - 1) (F.1 - min (S (11 + 4 * rcN S b)) F.1, F.2.1 + min (S (11 + 4 * rcN S b)) F.1, setC F.2.2 b ((if t = S (44 + 5 * b) + S (12 + 4 * rcN S b) - 1 then 2 else 1), (F.2.2 b).2.1, min (F.2.2 b).2.2.1 (F.1 - S (10 + 4 * rcN S b)), (F.2.2 b).2.2.2 + 1)) ∧ ∀ i, i < 112 + 10 * c ∨ 122 + 10 * c ≤ i → M1 i = M i) := by
        intro tk htk
        subst htk
        have q0 : ∀ v, M' (cI c 0) v = M (cI c 0) v := fun v => by rw [k0]
        have hM5 : ∃ M5, M5 = mup (mup (mup (mup M' (cI c 0) 1 (I (F.1 - min (S (11 + 4 * rcN S b)) F.1))) (cI c 0) 5 (I (F.2.1 + min (S (11 + 4 * rcN S b)) F.1))) (cI c 3) x (I ((F.2.2 b).2.2.2 + 1))) (cI c 2) x (I 1) := ⟨_, rfl⟩
        obtain ⟨M5, hM5⟩ := hM5
        have z0 : M5 (cI c 0) 0 = I t := by rw [hM5, mup_n (cI_nm (by decide)), mup_n (cI_nm (by decide)), mup_s, upd_n (by decide), mup_s, upd_n (by decide), k0, n0]
        have z1 : M5 (cI c 0) 1 = I (F.1 - min (S (11 + 4 * rcN S b)) F.1) := by rw [hM5, mup_n (cI_nm (by decide)), mup_n (cI_nm (by decide)), mup_s, upd_n (by decide), mup_s, upd_s]
        have z2 : M5 (cI c 0) 2 = I (S 2) := by rw [hM5, mup_n (cI_nm (by decide)), mup_n (cI_nm (by decide)), mup_s, upd_n (by decide), mup_s, upd_n (by decide), k0, n2]
        have z3 : M5 (cI c 0) 3 = I (S 3) := by rw [hM5, mup_n (cI_nm (by decide)), mup_n (cI_nm (by decide)), mup_s, upd_n (by decide), mup_s, upd_n (by decide), k0, n3]
        have z4 : M5 (cI c 0) 4 = I low := by rw [hM5, mup_n (cI_nm (by decide)), mup_n (cI_nm (by decide)), mup_s, upd_n (by decide), mup_s, upd_n (by decide), k0, n4]
        have z5 : M5 (cI c 0) 5 = I (F.2.1 + min (S (11 + 4 * rcN S b)) F.1) := by rw [hM5, mup_n (cI_nm (by decide)), mup_n (cI_nm (by decide)), mup_s, upd_s]
        have z6 : M5 (cI c 0) 6 = I ps.length := by rw [hM5, mup_n (cI_nm (by decide)), mup_n (cI_nm (by decide)), mup_s, upd_n (by decide), mup_s, upd_n (by decide), k0, n6]
        have z7 : M5 (cI c 0) 7 = I o := by rw [hM5, mup_n (cI_nm (by decide)), mup_n (cI_nm (by decide)), mup_s, upd_n (by decide), mup_s, upd_n (by decide), k0, n7]
        have y3 : M5 (cI c 3) = upd (M (cI c 3)) x (I ((F.2.2 b).2.2.2 + 1)) := by rw [hM5, mup_n (cI_nm (by decide)), mup_s, mup_n (cI_nm (by decide)), mup_n (cI_nm (by decide)), k3]
        have y2 : M5 (cI c 2) = upd (M (cI c 2)) x (I 1) := by rw [hM5, mup_s, mup_n (cI_nm (by decide)), mup_n (cI_nm (by decide)), mup_n (cI_nm (by decide)), k2]
        have y : ∀ i, i ≠ cI c 0 → i ≠ cI c 2 → i ≠ cI c 3 → M5 i = M' i := fun i i0 i2 i3 => by rw [hM5, mup_n i2, mup_n i3, mup_n i0, mup_n i0]
        have x9 : M5 (cI c 9) x = I (S (44 + 5 * b) + S (12 + 4 * rcN S b) - 1) := by rw [y _ (cI_nm (by decide)) (cI_nm (by decide)) (cI_nm (by decide)), k9, r9]
        -- the end of either road
        have fin : ∀ (M6 : Mem) (v o' : Int), (∀ i, i ≠ cI c 0 → i ≠ cI c 2 → M6 i = M5 i) → (∀ j, j ≠ 7 → M6 (cI c 0) j = M5 (cI c 0) j) → M6 (cI c 0) 7 = I o' → (∀ r, r ≠ x → M6 (cI c 2) r = M5 (cI c 2) r) → M6 (cI c 2) x = I v → crs c M6 S ps t low o' (F.1 - min (S (11 + 4 * rcN S b)) F.1, F.2.1 + min (S (11 + 4 * rcN S b)) F.1, setC F.2.2 b (v, (F.2.2 b).2.1, min (F.2.2 b).2.2.1 (F.1 - S (10 + 4 * rcN S b)), (F.2.2 b).2.2.2 + 1)) ∧ ∀ i, i < 112 + 10 * c ∨ 122 + 10 * c ≤ i → M6 i = M i := by
          intro M6 v o' f1 f2 f3 f4 f5
          have g : ∀ i, i ≠ cI c 0 → i ≠ cI c 2 → i ≠ cI c 3 → i ≠ cI c 5 → M6 i = M i := fun i i0 i2 i3 i5 => by rw [f1 i i0 i2, y i i0 i2 i3, e1 i i5]
          have g5 : ∀ r, M6 (cI c 5) r = M' (cI c 5) r := fun r => by rw [f1 _ (cI_nm (by decide)) (cI_nm (by decide)), y _ (cI_nm (by decide)) (cI_nm (by decide)) (cI_nm (by decide))]
          have g3 : M6 (cI c 3) = upd (M (cI c 3)) x (I ((F.2.2 b).2.2.2 + 1)) := by rw [f1 _ (cI_nm (by decide)) (cI_nm (by decide)), y3]
          refine ⟨⟨⟨by rw [f2 _ (by decide), z0], by rw [f2 _ (by decide), z1], by rw [f2 _ (by decide), z2], by rw [f2 _ (by decide), z3], by rw [f2 _ (by decide), z4], by rw [f2 _ (by decide), z5], by rw [f2 _ (by decide), z6], f3⟩, fun r a hra => ?_⟩, fun i hi => g i (by unfold cI; omega) (by unfold cI; omega) (by unfold cI; omega) (by unfold cI; omega)⟩
          dsimp only
          by_cases e : r = x
          · subst e
            rw [hx] at hra
            cases hra
            rw [setC_s]
            refine ⟨⟨?_, ?_, ?_, ?_, ?_⟩, f5, ?_, ?_, ?_⟩
            · rw [g _ (cI_nm (by decide)) (cI_nm (by decide)) (cI_nm (by decide)) (cI_nm (by decide)), r1]
            · rw [g _ (cI_nm (by decide)) (cI_nm (by decide)) (cI_nm (by decide)) (cI_nm (by decide)), r6]
            · rw [g _ (cI_nm (by decide)) (cI_nm (by decide)) (cI_nm (by decide)) (cI_nm (by decide)), r7]
            · rw [g _ (cI_nm (by decide)) (cI_nm (by decide)) (cI_nm (by decide)) (cI_nm (by decide)), r8]
            · rw [g _ (cI_nm (by decide)) (cI_nm (by decide)) (cI_nm (by decide)) (cI_nm (by decide)), r9]
            · rw [g3, upd_s]
            · rw [g _ (cI_nm (by decide)) (cI_nm (by decide)) (cI_nm (by decide)) (cI_nm (by decide)), r4]
            · rw [g5, e3]
          · rw [setC_n (row_ne hnd hra hx e)]
            refine rowC_congr (hrow r a hra) (fun j h1 h2 => ?_)
            by_cases j2 : j = 2
            · subst j2; rw [f4 r e, y2, upd_n e]
            · by_cases j3 : j = 3
              · subst j3; rw [g3, upd_n e]
              · by_cases j5 : j = 5
                · subst j5; rw [g5, e2 r e]
                · rw [g _ (cI_nm (by omega)) (cI_nm j2) (cI_nm j3) (cI_nm j5)]
        unfold d_X1_drawFor_B100
        simp (disch := first | omega | (unfold sm; omega)) only [wq_bd, wq_some, wq_bnd, wq_ite, bnd_e, bd_some, lit_, neg_I, I_lt, I_le, I_eq, I_add, I_sub, I_mul, I_clamp, chk_I, wchk_I, I_succ, Int.toNat_natCast, Int.reduceToNat, b01, b01I, bd_ite, if_true, if_false, ite_self, reduceIte, Int.reduceLE, Int.reduceLT, Int.reduceAdd, Int.reduceSub, Int.reduceNeg, Nat.reduceEqDiff, Nat.reduceAdd, mup_s, upd_s, mup_n (show cI c 3 ≠ cI c 0 from cI_nm (by decide)), q0, n1, n5, upd_n (show (5 : Nat) ≠ 1 by decide), k3, r3]
        rw [← hM5]
        simp (disch := first | omega | (unfold sm; omega)) only [wq_bd, wq_some, wq_bnd, wq_ite, bnd_e, bd_some, lit_, neg_I, I_lt, I_le, I_eq, I_add, I_sub, I_mul, I_clamp, chk_I, wchk_I, I_succ, Int.toNat_natCast, Int.reduceToNat, b01, b01I, bd_ite, if_true, if_false, ite_self, reduceIte, Int.reduceLE, Int.reduceLT, Int.reduceAdd, Int.reduceSub, Int.reduceNeg, Nat.reduceEqDiff, Nat.reduceAdd, z0, x9]
        by_cases d2 : t = S (44 + 5 * b) + S (12 + 4 * rcN S b) - 1
        · rw [if_pos d2]
          simp (disch := first | omega | (unfold sm; omega)) only [wq_bd, wq_some, wq_bnd, wq_ite, bnd_e, bd_some, lit_, neg_I, I_lt, I_le, I_eq, I_add, I_sub, I_mul, I_clamp, chk_I, wchk_I, I_succ, Int.toNat_natCast, Int.reduceToNat, b01, b01I, bd_ite, if_true, if_false, ite_self, reduceIte, Int.reduceLE, Int.reduceLT, Int.reduceAdd, Int.reduceSub, Int.reduceNeg, Nat.reduceEqDiff, Nat.reduceAdd, mup_n (show cI c 0 ≠ cI c 2 from cI_nm (by decide)), z7]
          have z := fin (mup (mup M5 (cI c 2) x (I 2)) (cI c 0) 7 (I (o - 1))) 2 (o - 1) (fun i i0 i2 => by rw [mup_n i0, mup_n i2]) (fun j hj => by rw [mup_s, upd_n hj, mup_n (cI_nm (by decide))]) (by rw [mup_s, upd_s]) (fun r hr => by rw [mup_n (cI_nm (by decide)), mup_s, upd_n hr]) (by rw [mup_n (cI_nm (by decide)), mup_s, upd_s])
          simp only [if_pos d2]
          exact z
        · rw [if_neg d2]
          have z := fin M5 1 o (fun i _ _ => rfl) (fun j _ => rfl) z7 (fun r _ => rfl) (by rw [y2, upd_s])
          simp only [if_neg d2]
          exact z
      simp (disch := first | omega | (unfold sm; omega)) only [wq_bd, wq_some, wq_bnd, wq_ite, bnd_e, bd_some, lit_, neg_I, I_lt, I_le, I_eq, I_add, I_sub, I_mul, I_clamp, chk_I, wchk_I, I_succ, Int.toNat_natCast, Int.reduceToNat, b01, b01I, bd_ite, if_true, if_false, ite_self, reduceIte, Int.reduceLE, Int.reduceLT, Int.reduceAdd, Int.reduceSub, Int.reduceNeg, Nat.reduceEqDiff, Nat.reduceAdd, k0, n1, k7, r7]
      rw [if_pos (by omega)]
      by_cases d3 : F.1 ≤ S (11 + 4 * rcN S b)
      · rw [if_pos d3]
        exact main2 F.1 (by omega)
      · rw [if_neg d3]
        exact main2 _ (by omega)
  unfold d_X1_drawFor
  simp (disch := first | omega | (unfold sm; omega)) only [wq_bd, wq_some, wq_bnd, wq_ite, bnd_e, bd_some, lit_, neg_I, I_lt, I_le, I_eq, I_add, I_sub, I_mul, I_clamp, chk_I, wchk_I, I_succ, Int.toNat_natCast, Int.reduceToNat, b01, b01I, bd_ite, if_true, if_false, ite_self, reduceIte, Int.reduceLE, Int.reduceLT, Int.reduceAdd, Int.reduceSub, Int.reduceNeg, Nat.reduceEqDiff, Nat.reduceAdd, n6, n1, r6, r5]
  rw [if_neg (by omega), if_pos (by omega)]
  by_cases d : lsC (F.2.2 b).2.2.1 ≤ F.1 - S (10 + 4 * rcN S b)
  · rw [if_pos d]
    exact main M (fun i _ => rfl) (fun r _ => rfl) (by rw [hmin, if_pos d, r5])
  · rw [if_neg d]
    exact main _ (fun i hi => mup_n hi) (fun r hr => by rw [mup_s, upd_n hr]) (by rw [mup_s, upd_s, hmin, if_neg d])
/-! the class's course: ticks -/
def oS (ps : List Nat) (F : Fc) : Int := (opn ps F.2.2 : Nat)
theorem oS_ask {S : Nat → Int} {ps : List Nat} (hs : ScOk S ps) {t : Int} {F : Fc} {b : Nat} (hb : b ∈ ps) (ha : askP S t F.2.2 b) : (if (askC S t F.1 (F.2.2 b) b).1 ≤ 1 then oS ps F else oS ps F - 1) = oS ps (askS S t F b) := by
  have h := opn_set (D := F.2.2) (b := b) (c := askC S t F.1 (F.2.2 b) b) ps hs.2.2.2.2.2.2.2.1 hb ha.1
  unfold oS askS
  rw [if_pos ha]
  dsimp only
  by_cases c : (askC S t F.1 (F.2.2 b) b).1 ≤ 1
  · rw [if_pos c] at h ⊢
    omega
  · rw [if_neg c] at h ⊢
    omega
theorem oS_le (ps : List Nat) (F : Fc) : 0 ≤ oS ps F ∧ oS ps F ≤ ps.length := by
  have : opn ps F.2.2 ≤ ps.length := List.countP_le_length
  unfold oS
  omega
theorem ctick_L {c : Nat} {S : Nat → Int} {ps : List Nat} (hs : ScOk S ps) {t low : Int} (ht : 1 ≤ t ∧ t ≤ 20000) {kx : Mem → Ans} {Q : Int32 → Mem → Prop} : ∀ (d n x : Nat) (M : Mem) (F : Fc), x + d = ps.length → d < n → crs c M S ps t low (oS ps F) F → FI S ps t F → (∀ b ∈ ps.drop x, (F.2.2 b).1 = 2 → S (44 + 5 * b) + S (12 + 4 * rcN S b) - 1 < t) → (∀ M1, crs c M1 S ps t low (oS ps ((ps.drop x).foldl (askS S t) F)) ((ps.drop x).foldl (askS S t) F) → (∀ i, i < 112 + 10 * c ∨ 122 + 10 * c ≤ i → M1 i = M i) → wp (kx M1) Q) → wp (d_X1_passTick_L32 c kx n (I x) M) Q
  | 0, n + 1, x, M, F, hx, hn, h, hF, hw, k => by
    have n6 := h.1.2.2.2.2.2.2.1
    have hlen := hs.2.2.2.2.2.2.2.2
    rw [sd_X1_passTick_L32]
    unfold d_X1_passTick_L32_body
    simp (disch := first | omega | (unfold sm; omega)) only [wq_bd, wq_some, wq_bnd, wq_ite, bnd_e, bd_some, lit_, neg_I, I_lt, I_le, I_eq, I_add, I_sub, I_mul, I_clamp, chk_I, wchk_I, I_succ, Int.toNat_natCast, Int.reduceToNat, b01, b01I, bd_ite, if_true, if_false, ite_self, reduceIte, Int.reduceLE, Int.reduceLT, Int.reduceAdd, Int.reduceSub, Int.reduceNeg, Nat.reduceEqDiff, Nat.reduceAdd, n6]
    rw [if_pos (by omega)]
    rw [List.drop_eq_nil_of_le (by omega)] at k
    exact k M h (fun i _ => rfl)
  | d + 1, n + 1, x, M, F, hx, hn, h, hF, hw, k => by
    have n6 := h.1.2.2.2.2.2.2.1
    have n0 := h.1.1
    have hlen := hs.2.2.2.2.2.2.2.2
    have hnd := hs.2.2.2.2.2.2.2.1
    have hget : ps[x]? = some ps[x] := List.getElem?_eq_getElem (by omega)
    have hbm : ps[x] ∈ ps := List.mem_of_getElem? hget
    have edrop : ps.drop x = ps[x] :: ps.drop (x + 1) := List.drop_eq_getElem_cons (by omega)
    have hndd : (ps.drop x).Nodup := hnd.sublist (List.drop_sublist x ps)
    rw [edrop] at hndd hw k
    have hni := (List.nodup_cons.mp hndd).1
    generalize ps[x] = b at *
    obtain ⟨-, h43, hrl, hr, h44, -⟩ := hs.2.2.2.2.2.2.1 b hbm
    unfold rcOk at hr
    have hce := hF.2 b hbm
    have hwb := hw b List.mem_cons_self
    unfold ceOk at hce
    obtain ⟨⟨r1, r6, r7, r8, r9⟩, r2, r3, r4, r5⟩ := h.2 x b hget
    have ih := fun M F h1 h2 h3 h4 => ctick_L (c := c) hs (low := low) ht (kx := kx) (Q := Q) d n (x + 1) M F (by omega) (by omega) h1 h2 h3 h4
    rw [sd_X1_passTick_L32]
    unfold d_X1_passTick_L32_body
    simp (disch := first | omega | (unfold sm; omega)) only [wq_bd, wq_some, wq_bnd, wq_ite, bnd_e, bd_some, lit_, neg_I, I_lt, I_le, I_eq, I_add, I_sub, I_mul, I_clamp, chk_I, wchk_I, I_succ, Int.toNat_natCast, Int.reduceToNat, b01, b01I, bd_ite, if_true, if_false, ite_self, reduceIte, Int.reduceLE, Int.reduceLT, Int.reduceAdd, Int.reduceSub, Int.reduceNeg, Nat.reduceEqDiff, Nat.reduceAdd, n6, n0, r8, r9, r2, d_X1_passTick_B81]
    rw [if_neg (by omega)]
    rw [List.foldl_cons] at k
    have skip : ¬ askP S t F.2.2 b → wp (d_X1_passTick_L32 c kx n (I ((x + 1 : Nat) : Int)) M) Q := by
      intro ha
      have e : askS S t F b = F := by unfold askS; rw [if_neg ha]
      rw [e] at k
      exact ih M F h hF (fun y hy => hw y (List.mem_cons_of_mem _ hy)) k
    by_cases c1 : t < S (44 + 5 * b)
    · rw [if_pos c1]
      exact skip (fun ha => by have := ha.2.1; omega)
    · rw [if_neg c1]
      by_cases c2 : S (44 + 5 * b) + S (12 + 4 * rcN S b) - 1 < t
      · rw [if_pos c2]
        exact skip (fun ha => by have := ha.2.2; omega)
      · rw [if_neg c2]
        by_cases c3 : (F.2.2 b).1 = 3
        · rw [if_pos c3]
          exact skip (fun ha => by have := ha.1; omega)
        · rw [if_neg c3]
          have ha : askP S t F.2.2 b := ⟨by omega, by omega, by omega⟩
          refine wp_mono (draw_spec hs ht hF h hget ha) (fun r M2 q => ?_)
          obtain ⟨q1, q2⟩ := q
          rw [oS_ask hs hbm ha] at q1
          refine ih M2 _ q1 (ask_FI hs ht.1 hF hbm) (fun y hy h2 => ?_) (fun M1 z1 z2 => k M1 z1 (fun i hi => (z2 i hi).trans (q2 i hi)))
          have hne : y ≠ b := fun e => hni (e ▸ hy)
          refine hw y (List.mem_cons_of_mem _ hy) ?_
          unfold askS at h2
          rw [if_pos ha] at h2
          dsimp only at h2
          rw [setC_n hne] at h2
          exact h2
  | _, 0, _, _, _, _, hn, _, _, _, _ => absurd hn (by omega)
theorem ctick_spec {c : Nat} {S : Nat → Int} {ps : List Nat} (hs : ScOk S ps) {t low : Int} (ht : 0 ≤ t ∧ t ≤ 19999) (hlow : 0 ≤ low ∧ low ≤ 1000000) {M : Mem} {F : Fc} (h : crs c M S ps t low (oS ps F) F) (hF : FI S ps t F) : wp (d_X1_passTick c M) (fun _ M1 => crs c M1 S ps (t + 1) (min low (tickS S ps (t + 1) F).1) (oS ps (tickS S ps (t + 1) F)) (tickS S ps (t + 1) F) ∧ ∀ i, i < 112 + 10 * c ∨ 122 + 10 * c ≤ i → M1 i = M i) := by
  obtain ⟨⟨n0, n1, n2, n3, n4, n5, n6, n7⟩, hrow⟩ := h
  have hp := hF.1
  obtain ⟨g0, g1, g2, g3, -⟩ := id hs
  have hFu := FI_up hs hF
  unfold d_X1_passTick
  simp (disch := first | omega | (unfold sm; omega)) only [wq_bd, wq_some, wq_bnd, wq_ite, bnd_e, bd_some, lit_, neg_I, I_lt, I_le, I_eq, I_add, I_sub, I_mul, I_clamp, chk_I, wchk_I, I_succ, Int.toNat_natCast, Int.reduceToNat, b01, b01I, bd_ite, if_true, if_false, ite_self, reduceIte, Int.reduceLE, Int.reduceLT, Int.reduceAdd, Int.reduceSub, Int.reduceNeg, Nat.reduceEqDiff, Nat.reduceAdd, n0, n1, n2, n3, mup_s, upd_s, upd_n (show (2 : Nat) ≠ 0 by decide), upd_n (show (1 : Nat) ≠ 0 by decide), upd_n (show (3 : Nat) ≠ 0 by decide), imin_I]
  rw [show (I 0 : Int32) = I ((0 : Nat) : Int) from rfl]
  refine ctick_L (c := c) hs (t := t + 1) (low := low) (by omega) ps.length fuelN 0 _ (min (S 2) (F.1 + S 3), F.2) (by omega) (by unfold fuelN; have := hs.2.2.2.2.2.2.2.2; omega) ?_ hFu (fun b hb h2 => ?_) (fun M1 z1 z2 => ?_)
  · refine ⟨⟨?_, ?_, ?_, ?_, ?_, ?_, ?_, ?_⟩, fun r b hr => rowC_congr (hrow r b hr) (fun j h1 h2 => ?_)⟩
    · rw [mup_s, upd_n (by decide), mup_s, upd_s]
    · rw [mup_s, upd_s]
    · rw [mup_s, upd_n (by decide), mup_s, upd_n (by decide), n2]
    · rw [mup_s, upd_n (by decide), mup_s, upd_n (by decide), n3]
    · rw [mup_s, upd_n (by decide), mup_s, upd_n (by decide), n4]
    · rw [mup_s, upd_n (by decide), mup_s, upd_n (by decide), n5]
    · rw [mup_s, upd_n (by decide), mup_s, upd_n (by decide), n6]
    · rw [mup_s, upd_n (by decide), mup_s, upd_n (by decide), n7]; rfl
    · rw [mup_n (cI_nm (by omega)), mup_n (cI_nm (by omega))]
  · have := (hF.2 b (List.mem_of_mem_drop hb)).2.2.2.2 h2
    omega
  · rw [List.drop_zero] at z1
    have eT : ps.foldl (askS S (t + 1)) (min (S 2) (F.1 + S 3), F.2) = tickS S ps (t + 1) F := rfl
    rw [eT] at z1
    have hFt : FI S ps (t + 1) (tickS S ps (t + 1) F) := fold_FI hs (by omega) ps _ (fun b hb => hb) hFu
    have hpt := hFt.1
    obtain ⟨⟨m0, m1, m2, m3, m4, m5, m6, m7⟩, mrow⟩ := z1
    simp (disch := first | omega | (unfold sm; omega)) only [wq_bd, wq_some, wq_bnd, wq_ite, bnd_e, bd_some, lit_, neg_I, I_lt, I_le, I_eq, I_add, I_sub, I_mul, I_clamp, chk_I, wchk_I, I_succ, Int.toNat_natCast, Int.reduceToNat, b01, b01I, bd_ite, if_true, if_false, ite_self, reduceIte, Int.reduceLE, Int.reduceLT, Int.reduceAdd, Int.reduceSub, Int.reduceNeg, Nat.reduceEqDiff, Nat.reduceAdd, m4, m1, imin_I]
    refine ⟨⟨⟨?_, ?_, ?_, ?_, ?_, ?_, ?_, ?_⟩, fun r b hr => rowC_congr (mrow r b hr) (fun j h1 h2 => ?_)⟩, fun i hi => ?_⟩
    · rw [mup_s, upd_n (by decide), m0]
    · rw [mup_s, upd_n (by decide), m1]
    · rw [mup_s, upd_n (by decide), m2]
    · rw [mup_s, upd_n (by decide), m3]
    · rw [mup_s, upd_s]
    · rw [mup_s, upd_n (by decide), m5]
    · rw [mup_s, upd_n (by decide), m6]
    · rw [mup_s, upd_n (by decide), m7]
    · rw [mup_n (cI_nm (by omega))]
    · rw [mup_n (by unfold cI; omega), z2 i hi, mup_n (by unfold cI; omega), mup_n (by unfold cI; omega)]
/-- the lowest pressure, from a first value -/
def lowS (S : Nat → Int) (ps : List Nat) (z : Int) : Nat → Int
  | 0 => z
  | n + 1 => min (lowS S ps z n) (runS S ps (n + 1)).1
theorem lowS_b {S : Nat → Int} {ps : List Nat} (hs : ScOk S ps) {z : Int} (hz : 0 ≤ z ∧ z ≤ 1000000) : ∀ n, 0 ≤ lowS S ps z n ∧ lowS S ps z n ≤ 1000000
  | 0 => hz
  | n + 1 => by
    have := lowS_b hs hz n
    have h2 := (run_FI hs (n + 1)).1
    unfold lowS
    omega
def crN (c : Nat) (M : Mem) (S : Nat → Int) (ps : List Nat) (n : Nat) : Prop := crs c M S ps (S 0 + n) (lowS S ps 1000000 n) (oS ps (runS S ps n)) (runS S ps n)
theorem ctick_n {c : Nat} {S : Nat → Int} {ps : List Nat} (hs : ScOk S ps) {n : Nat} (hn : n ≤ 1000) {M : Mem} (h : crN c M S ps n) : wp (d_X1_passTick c M) (fun _ M1 => crN c M1 S ps (n + 1) ∧ ∀ i, i < 112 + 10 * c ∨ 122 + 10 * c ≤ i → M1 i = M i) := by
  have g0 := hs.1
  have := ctick_spec hs (by omega) (lowS_b hs (by omega) n) h (run_FI hs n)
  rw [show S 0 + (n : Int) + 1 = S 0 + ((n + 1 : Nat) : Int) by omega] at this
  have e : tickS S ps (S 0 + ((n + 1 : Nat) : Int)) (runS S ps n) = runS S ps (n + 1) := by
    show _ = tickS S ps (S 0 + n + 1) (runS S ps n)
    rw [show S 0 + (n : Int) + 1 = S 0 + ((n + 1 : Nat) : Int) by omega]
  rw [e] at this
  exact this
theorem cticks_L {c : Nat} {S : Nat → Int} {ps : List Nat} (hs : ScOk S ps) {N : Nat} (hN : N ≤ 200) {kx : Mem → Ans} {Q : Int32 → Mem → Prop} : ∀ (d n x : Nat) (M : Mem), x + d = N → d < n → crN c M S ps x → (∀ M1, crN c M1 S ps N → (∀ i, i < 112 + 10 * c ∨ 122 + 10 * c ≤ i → M1 i = M i) → wp (kx M1) Q) → wp (d_X1_passTicks_L2 c (I N) kx n (I x) M) Q
  | 0, n + 1, x, M, hx, hn, h, k => by
    rw [sd_X1_passTicks_L2]
    unfold d_X1_passTicks_L2_body
    simp (disch := first | omega | (unfold sm; omega)) only [wq_bd, wq_some, wq_bnd, wq_ite, bnd_e, bd_some, lit_, neg_I, I_lt, I_le, I_eq, I_add, I_sub, I_mul, I_clamp, chk_I, wchk_I, I_succ, Int.toNat_natCast, Int.reduceToNat, b01, b01I, bd_ite, if_true, if_false, ite_self, reduceIte, Int.reduceLE, Int.reduceLT, Int.reduceAdd, Int.reduceSub, Int.reduceNeg, Nat.reduceEqDiff, Nat.reduceAdd]
    rw [if_pos (by omega)]
    have : x = N := by omega
    subst this
    exact k M h (fun i _ => rfl)
  | d + 1, n + 1, x, M, hx, hn, h, k => by
    rw [sd_X1_passTicks_L2]
    unfold d_X1_passTicks_L2_body
    simp (disch := first | omega | (unfold sm; omega)) only [wq_bd, wq_some, wq_bnd, wq_ite, bnd_e, bd_some, lit_, neg_I, I_lt, I_le, I_eq, I_add, I_sub, I_mul, I_clamp, chk_I, wchk_I, I_succ, Int.toNat_natCast, Int.reduceToNat, b01, b01I, bd_ite, if_true, if_false, ite_self, reduceIte, Int.reduceLE, Int.reduceLT, Int.reduceAdd, Int.reduceSub, Int.reduceNeg, Nat.reduceEqDiff, Nat.reduceAdd]
    rw [if_neg (by omega)]
    refine wp_mono (ctick_n hs (by omega) h) (fun r M2 q => ?_)
    exact cticks_L hs hN d n (x + 1) M2 (by omega) (by omega) q.1 (fun M1 z1 z2 => k M1 z1 (fun i hi => (z2 i hi).trans (q.2 i hi)))
  | _, 0, _, _, _, hn, _, _ => absurd hn (by omega)
theorem cticks_spec {c : Nat} {S : Nat → Int} {ps : List Nat} (hs : ScOk S ps) {N : Nat} (hN : N ≤ 200) {M : Mem} (h : crN c M S ps 0) : wp (d_X1_passTicks c (I N) M) (fun _ M1 => crN c M1 S ps N ∧ ∀ i, i < 112 + 10 * c ∨ 122 + 10 * c ≤ i → M1 i = M i) := by
  unfold d_X1_passTicks
  rw [show (0 : Int32) = I ((0 : Nat) : Int) from rfl]
  refine cticks_L hs hN N fuelN 0 M (by omega) (by unfold fuelN; omega) h (fun M1 z1 z2 => ?_)
  rw [wq_some]
  exact ⟨z1, z2⟩
/-- the rows as at the forecast's end -/
def crE (c : Nat) (M : Mem) (S : Nat → Int) (ps : List Nat) : Prop := M (cI c 0) 6 = I ps.length ∧ ∀ r b, ps[r]? = some b → rowC c M S ((runS S ps 80).2.2 b) r b
theorem cend_L {c : Nat} {S : Nat → Int} {ps : List Nat} (hs : ScOk S ps) {kx : Mem → Ans} {Q : Int32 → Mem → Prop} : ∀ (d n x : Nat) (M : Mem), x + d = 80 → d < n → crN c M S ps x → (∀ M1, crE c M1 S ps → (∀ i, i < 112 + 10 * c ∨ 122 + 10 * c ≤ i → M1 i = M i) → wp (kx M1) Q) → wp (d_X1_passToEnd_L2 c kx n (I x) M) Q
  | 0, n + 1, x, M, hx, hn, h, k => by
    rw [sd_X1_passToEnd_L2]
    unfold d_X1_passToEnd_L2_body
    simp (disch := first | omega | (unfold sm; omega)) only [wq_bd, wq_some, wq_bnd, wq_ite, bnd_e, bd_some, lit_, neg_I, I_lt, I_le, I_eq, I_add, I_sub, I_mul, I_clamp, chk_I, wchk_I, I_succ, Int.toNat_natCast, Int.reduceToNat, b01, b01I, bd_ite, if_true, if_false, ite_self, reduceIte, Int.reduceLE, Int.reduceLT, Int.reduceAdd, Int.reduceSub, Int.reduceNeg, Nat.reduceEqDiff, Nat.reduceAdd]
    rw [if_pos (by omega)]
    have : x = 80 := by omega
    subst this
    exact k M ⟨h.1.2.2.2.2.2.2.1, h.2⟩ (fun i _ => rfl)
  | d + 1, n + 1, x, M, hx, hn, h, k => by
    have n7 := h.1.2.2.2.2.2.2.2
    have ho := oS_le ps (runS S ps x)
    have hlen := hs.2.2.2.2.2.2.2.2
    rw [sd_X1_passToEnd_L2]
    unfold d_X1_passToEnd_L2_body
    simp (disch := first | omega | (unfold sm; omega)) only [wq_bd, wq_some, wq_bnd, wq_ite, bnd_e, bd_some, lit_, neg_I, I_lt, I_le, I_eq, I_add, I_sub, I_mul, I_clamp, chk_I, wchk_I, I_succ, Int.toNat_natCast, Int.reduceToNat, b01, b01I, bd_ite, if_true, if_false, ite_self, reduceIte, Int.reduceLE, Int.reduceLT, Int.reduceAdd, Int.reduceSub, Int.reduceNeg, Nat.reduceEqDiff, Nat.reduceAdd, n7]
    rw [if_neg (by omega)]
    by_cases c0 : oS ps (runS S ps x) ≤ 0
    · rw [if_pos c0]
      have hcl : ∀ b ∈ ps, 1 < ((runS S ps x).2.2 b).1 := opn_0 (by unfold oS at c0; omega)
      have e := run_closed hcl (80 - x)
      rw [show x + (80 - x) = 80 by omega] at e
      refine k M ⟨h.1.2.2.2.2.2.2.1, fun r b hr => ?_⟩ (fun i _ => rfl)
      rw [e]
      exact h.2 r b hr
    · rw [if_neg c0]
      refine wp_mono (ctick_n hs (by omega) h) (fun r M2 q => ?_)
      exact cend_L hs d n (x + 1) M2 (by omega) (by omega) q.1 (fun M1 z1 z2 => k M1 z1 (fun i hi => (z2 i hi).trans (q.2 i hi)))
  | _, 0, _, _, _, hn, _, _ => absurd hn (by omega)
theorem cend_spec {c : Nat} {S : Nat → Int} {ps : List Nat} (hs : ScOk S ps) {M : Mem} (h : crN c M S ps 0) : wp (d_X1_passToEnd c M) (fun _ M1 => crE c M1 S ps ∧ ∀ i, i < 112 + 10 * c ∨ 122 + 10 * c ≤ i → M1 i = M i) := by
  unfold d_X1_passToEnd
  rw [show (0 : Int32) = I ((0 : Nat) : Int) from rfl]
  refine cend_L hs 80 fuelN 0 M (by omega) (by unfold fuelN; omega) h (fun M1 z1 z2 => ?_)
  rw [wq_some]
  exact ⟨z1, z2⟩
/-! the class's course: how it begins -/
def inP (S : Nat → Int) (out : Int) (b : Nat) : Bool := decide (S (45 + 5 * b) ≤ 1 ∧ (b : Int) ≠ out)
def rl (S : Nat → Int) (out : Int) (ex : Bool) : List Nat := (List.range' 0 (S 5).toNat).filter (inP S out) ++ if ex then [60] else []
/-- S' is S with a booking at another place, without one, or with one more -/
def Scn (S S' : Nat → Int) (out : Int) (ex : Bool) (chg rcp st : Int) : Prop :=
  (∀ j, j < 42 → S' j = S j) ∧
  (∀ b : Nat, (b : Int) < S 5 → (b : Int) ≠ chg → (b : Int) ≠ out ∧ S' (43 + 5 * b) = S (43 + 5 * b) ∧ S' (44 + 5 * b) = S (44 + 5 * b)) ∧
  (∀ b : Nat, (b : Int) < S 5 → S' (45 + 5 * b) = S (45 + 5 * b) ∧ S' (46 + 5 * b) = S (46 + 5 * b)) ∧
  (∀ b : Nat, (b : Int) < S 5 → (b : Int) = chg → if st = -1 then (b : Int) = out else (S (45 + 5 * b) ≤ 1 ∧ (b : Int) ≠ out ∧ S' (43 + 5 * b) = rcp ∧ S' (44 + 5 * b) = st)) ∧
  (ex = true ↔ (S 5 ≤ chg ∧ st ≠ -1)) ∧ (ex = true → chg = S 5 ∧ S' 343 = rcp ∧ S' 344 = st)
theorem mup_c {M : Mem} {c a b j : Nat} {v : Int32} (h : a ≠ b) : mup M (cI c b) j v (cI c a) = M (cI c a) := mup_n (cI_nm h)
theorem mup_cs {M : Mem} {c a b j : Nat} {v : Int32} (h : a < 112) : mup M (cI c b) j v (sI 0 a) = M (sI 0 a) := mup_n (by unfold cI sI; omega)
theorem addRow_spec {c : Nat} {M : Mem} {S : Nat → Int} {W : List Wi} (hc : cv 0 M (S, W)) (hi : SInv (S, W)) {x : Nat} (hx : x < 61) (h6 : M (cI c 0) 6 = I x) {bk r : Nat} {st : Int} (hbk : bk ≤ 60) (hr : (r : Int) < S 4) : wp (d_X1_addRow c 0 (I bk) (I r) (I st) M) (fun _ M1 => M1 (cI c 0) 6 = I (x + 1 : Nat) ∧ (∀ j, j ≠ 6 → M1 (cI c 0) j = M (cI c 0) j) ∧ (∀ j, 1 ≤ j → j < 10 → ∀ y, y ≠ x → M1 (cI c j) y = M (cI c j) y) ∧ (M1 (cI c 1) x = I bk ∧ M1 (cI c 2) x = I (D0 S bk).1 ∧ M1 (cI c 3) x = I (D0 S bk).2.2.2 ∧ M1 (cI c 4) x = I (-5) ∧ M1 (cI c 5) x = I 1000000 ∧ M1 (cI c 6) x = I (S (10 + 4 * r)) ∧ M1 (cI c 7) x = I (S (11 + 4 * r)) ∧ M1 (cI c 8) x = I st ∧ M1 (cI c 9) x = I (st + S (12 + 4 * r) - 1)) ∧ ∀ i, i < 112 + 10 * c ∨ 122 + 10 * c ≤ i → M1 i = M i) := by
  have h4 := (si_n hi).2.2.2.2.1
  have h5 := (si_n hi).2.2.2.2.2.1
  obtain ⟨q0, q1, q2, q3⟩ := cv_r hc (r := r) (by omega)
  unfold d_X1_addRow
  simp (disch := first | omega | (unfold sm; omega)) only [wq_bd, wq_some, wq_bnd, wq_ite, bnd_e, bd_some, lit_, neg_I, I_lt, I_le, I_eq, I_add, I_sub, I_mul, I_clamp, chk_I, wchk_I, I_succ, Int.toNat_natCast, Int.reduceToNat, b01, b01I, bd_ite, if_true, if_false, ite_self, reduceIte, Int.reduceLE, Int.reduceLT, Int.reduceAdd, Int.reduceSub, Int.reduceNeg, Nat.reduceEqDiff, Nat.reduceAdd, h6]
  rw [if_neg (by omega), has4_I hc hi (by omega)]
  simp (disch := first | omega | (unfold sm; omega)) only [wq_bd, wq_some, wq_bnd, wq_ite, bnd_e, bd_some, lit_, neg_I, I_lt, I_le, I_eq, I_add, I_sub, I_mul, I_clamp, chk_I, wchk_I, I_succ, Int.toNat_natCast, Int.reduceToNat, b01, b01I, bd_ite, if_true, if_false, ite_self, reduceIte, Int.reduceLE, Int.reduceLT, Int.reduceAdd, Int.reduceSub, Int.reduceNeg, Nat.reduceEqDiff, Nat.reduceAdd, has0_I hc hi, h6, mup_c, mup_s]
  rw [if_neg (by omega)]
  -- the common end
  have fin : ∀ (M2 : Mem) (e d : Int), (∀ i, i ≠ cI c 1 → i ≠ cI c 2 → M2 i = M i) → M2 (cI c 1) = upd (M (cI c 1)) x (I bk) → M2 (cI c 2) = upd (M (cI c 2)) x (I e) → e = (D0 S bk).1 → d = (D0 S bk).2.2.2 → wp (d_X1_addRow_B94 c 0 (I r) (I st) (I d) (I x) M2) (fun _ M1 => M1 (cI c 0) 6 = I (x + 1 : Nat) ∧ (∀ j, j ≠ 6 → M1 (cI c 0) j = M (cI c 0) j) ∧ (∀ j, 1 ≤ j → j < 10 → ∀ y, y ≠ x → M1 (cI c j) y = M (cI c j) y) ∧ (M1 (cI c 1) x = I bk ∧ M1 (cI c 2) x = I (D0 S bk).1 ∧ M1 (cI c 3) x = I (D0 S bk).2.2.2 ∧ M1 (cI c 4) x = I (-5) ∧ M1 (cI c 5) x = I 1000000 ∧ M1 (cI c 6) x = I (S (10 + 4 * r)) ∧ M1 (cI c 7) x = I (S (11 + 4 * r)) ∧ M1 (cI c 8) x = I st ∧ M1 (cI c 9) x = I (st + S (12 + 4 * r) - 1)) ∧ ∀ i, i < 112 + 10 * c ∨ 122 + 10 * c ≤ i → M1 i = M i) := by
    intro M2 e d f0 f1 f2 he hd
    have z0 : M2 (cI c 0) = M (cI c 0) := f0 _ (cI_nm (by decide)) (cI_nm (by decide))
    have zs2 : M2 (sI 0 2) = M (sI 0 2) := f0 _ (by unfold cI sI; omega) (by unfold cI sI; omega)
    have zs3 : M2 (sI 0 3) = M (sI 0 3) := f0 _ (by unfold cI sI; omega) (by unfold cI sI; omega)
    have zs4 : M2 (sI 0 4) = M (sI 0 4) := f0 _ (by unfold cI sI; omega) (by unfold cI sI; omega)
    unfold d_X1_addRow_B94
    simp only [mup_c (show (0 : Nat) ≠ 3 by decide), mup_c (show (0 : Nat) ≠ 4 by decide), mup_c (show (0 : Nat) ≠ 5 by decide), mup_c (show (0 : Nat) ≠ 6 by decide), mup_c (show (0 : Nat) ≠ 7 by decide), mup_c (show (0 : Nat) ≠ 8 by decide), mup_c (show (0 : Nat) ≠ 9 by decide), mup_cs (show 2 < 112 by decide), mup_cs (show 3 < 112 by decide), mup_cs (show 4 < 112 by decide), z0, h6, zs2, zs3, zs4, bnd_e]
    simp (disch := first | omega | (unfold sm; omega)) only [wq_bd, wq_some, wq_bnd, wq_ite, bnd_e, bd_some, lit_, neg_I, I_lt, I_le, I_eq, I_add, I_sub, I_mul, I_clamp, chk_I, wchk_I, I_succ, Int.toNat_natCast, Int.reduceToNat, b01, b01I, bd_ite, if_true, if_false, ite_self, reduceIte, Int.reduceLE, Int.reduceLT, Int.reduceAdd, Int.reduceSub, Int.reduceNeg, Nat.reduceEqDiff, Nat.reduceAdd, q0, q1, q2]
    refine ⟨?_, fun j hj => ?_, fun j h1 h2 y hy => ?_, ⟨?_, ?_, ?_, ?_, ?_, ?_, ?_, ?_, ?_⟩, fun i hi => ?_⟩
    · rw [mup_s, upd_s]
    · rw [mup_s, upd_n hj, mup_c (by decide), mup_c (by decide), mup_c (by decide), mup_c (by decide), mup_c (by decide), mup_c (by decide), mup_c (by decide), z0]
    · rw [mup_c (by omega)]
      rcases (show j = 1 ∨ j = 2 ∨ j = 3 ∨ j = 4 ∨ j = 5 ∨ j = 6 ∨ j = 7 ∨ j = 8 ∨ j = 9 by omega) with rfl | rfl | rfl | rfl | rfl | rfl | rfl | rfl | rfl
      · rw [mup_c (by decide), mup_c (by decide), mup_c (by decide), mup_c (by decide), mup_c (by decide), mup_c (by decide), mup_c (by decide), f1, upd_n hy]
      · rw [mup_c (by decide), mup_c (by decide), mup_c (by decide), mup_c (by decide), mup_c (by decide), mup_c (by decide), mup_c (by decide), f2, upd_n hy]
      · rw [mup_c (by decide), mup_c (by decide), mup_c (by decide), mup_c (by decide), mup_c (by decide), mup_c (by decide), mup_s, upd_n hy, f0 _ (cI_nm (by decide)) (cI_nm (by decide))]
      · rw [mup_c (by decide), mup_c (by decide), mup_c (by decide), mup_c (by decide), mup_c (by decide), mup_s, upd_n hy, mup_c (by decide), f0 _ (cI_nm (by decide)) (cI_nm (by decide))]
      · rw [mup_c (by decide), mup_c (by decide), mup_c (by decide), mup_c (by decide), mup_s, upd_n hy, mup_c (by decide), mup_c (by decide), f0 _ (cI_nm (by decide)) (cI_nm (by decide))]
      · rw [mup_c (by decide), mup_c (by decide), mup_c (by decide), mup_s, upd_n hy, mup_c (by decide), mup_c (by decide), mup_c (by decide), f0 _ (cI_nm (by decide)) (cI_nm (by decide))]
      · rw [mup_c (by decide), mup_c (by decide), mup_s, upd_n hy, mup_c (by decide), mup_c (by decide), mup_c (by decide), mup_c (by decide), f0 _ (cI_nm (by decide)) (cI_nm (by decide))]
      · rw [mup_c (by decide), mup_s, upd_n hy, mup_c (by decide), mup_c (by decide), mup_c (by decide), mup_c (by decide), mup_c (by decide), f0 _ (cI_nm (by decide)) (cI_nm (by decide))]
      · rw [mup_s, upd_n hy, mup_c (by decide), mup_c (by decide), mup_c (by decide), mup_c (by decide), mup_c (by decide), mup_c (by decide), f0 _ (cI_nm (by decide)) (cI_nm (by decide))]
    · rw [mup_c (by decide), mup_c (by decide), mup_c (by decide), mup_c (by decide), mup_c (by decide), mup_c (by decide), mup_c (by decide), mup_c (by decide), f1, upd_s]
    · rw [mup_c (by decide), mup_c (by decide), mup_c (by decide), mup_c (by decide), mup_c (by decide), mup_c (by decide), mup_c (by decide), mup_c (by decide), f2, upd_s, he]
    · rw [mup_c (by decide), mup_c (by decide), mup_c (by decide), mup_c (by decide), mup_c (by decide), mup_c (by decide), mup_c (by decide), mup_s, upd_s, hd]
    · rw [mup_c (by decide), mup_c (by decide), mup_c (by decide), mup_c (by decide), mup_c (by decide), mup_c (by decide), mup_s, upd_s]
    · rw [mup_c (by decide), mup_c (by decide), mup_c (by decide), mup_c (by decide), mup_c (by decide), mup_s, upd_s]
    · rw [mup_c (by decide), mup_c (by decide), mup_c (by decide), mup_c (by decide), mup_s, upd_s]
    · rw [mup_c (by decide), mup_c (by decide), mup_c (by decide), mup_s, upd_s]
    · rw [mup_c (by decide), mup_c (by decide), mup_s, upd_s]
    · rw [mup_c (by decide), mup_s, upd_s]
    · rw [mup_n (by unfold cI; omega), mup_n (by unfold cI; omega), mup_n (by unfold cI; omega), mup_n (by unfold cI; omega), mup_n (by unfold cI; omega), mup_n (by unfold cI; omega), mup_n (by unfold cI; omega), mup_n (by unfold cI; omega), f0 i (by unfold cI; omega) (by unfold cI; omega)]
  by_cases k : (bk : Int) < S 5
  · obtain ⟨b0, b1, b2, b3, b4⟩ := cv_b hc (b := bk) (by omega)
    have eD : D0 S bk = (S (45 + 5 * bk), 0, 99999, S (46 + 5 * bk)) := by unfold D0; rw [if_pos k]
    rw [if_neg (by omega)]
    simp (disch := first | omega | (unfold sm; omega)) only [wq_bd, wq_some, wq_bnd, wq_ite, bnd_e, bd_some, lit_, neg_I, I_lt, I_le, I_eq, I_add, I_sub, I_mul, I_clamp, chk_I, wchk_I, I_succ, Int.toNat_natCast, Int.reduceToNat, b01, b01I, bd_ite, if_true, if_false, ite_self, reduceIte, Int.reduceLE, Int.reduceLT, Int.reduceAdd, Int.reduceSub, Int.reduceNeg, Nat.reduceEqDiff, Nat.reduceAdd, mup_cs (show 10 < 112 by decide), mup_cs (show 11 < 112 by decide), b3, b4, d_X1_addRow_B67, mup_c, h6]
    rw [if_neg (by omega)]
    refine fin _ (S (45 + 5 * bk)) (S (46 + 5 * bk)) (fun i i1 i2 => by rw [mup_n i2, mup_n i1]) (by rw [mup_c (by decide), mup_s]) (by rw [mup_s, mup_c (by decide)]) (by rw [eD]) (by rw [eD])
  · have eD : D0 S bk = (0, 0, 99999, 0) := by unfold D0; rw [if_neg k]
    rw [if_pos (by omega)]
    simp (disch := first | omega | (unfold sm; omega)) only [wq_bd, wq_some, wq_bnd, wq_ite, bnd_e, bd_some, lit_, neg_I, I_lt, I_le, I_eq, I_add, I_sub, I_mul, I_clamp, chk_I, wchk_I, I_succ, Int.toNat_natCast, Int.reduceToNat, b01, b01I, bd_ite, if_true, if_false, ite_self, reduceIte, Int.reduceLE, Int.reduceLT, Int.reduceAdd, Int.reduceSub, Int.reduceNeg, Nat.reduceEqDiff, Nat.reduceAdd, d_X1_addRow_B67, mup_c, h6]
    rw [if_pos (by omega)]
    refine fin _ 0 0 (fun i i1 i2 => by rw [mup_n i2, mup_n i1]) (by rw [mup_c (by decide), mup_s]) (by rw [mup_s, mup_c (by decide)]) (by rw [eD]) (by rw [eD])
/-! the class's course begins a forecast -/
def crB (c : Nat) (M : Mem) (S : Nat → Int) (qs : List Nat) : Prop :=
  (M (cI c 0) 0 = I (S 0) ∧ M (cI c 0) 1 = I (S 1) ∧ M (cI c 0) 2 = I (S 2) ∧ M (cI c 0) 3 = I (S 3) ∧ M (cI c 0) 4 = I 1000000 ∧ M (cI c 0) 5 = I 0 ∧ M (cI c 0) 6 = I qs.length) ∧
  ∀ r b, qs[r]? = some b → rowC c M S (D0 S b) r b
theorem isOpen_I {M : Mem} {S : Nat → Int} {W : List Wi} (hc : cv 0 M (S, W)) (hi : SInv (S, W)) {b : Nat} (hb : (b : Int) < S 5) : d_X0_isOpen 0 (I b) M = some ((if S (45 + 5 * b) ≤ 1 then 1 else 0), M) := by
  have h5 := (si_n hi).2.2.2.2.2.1
  obtain ⟨b1, b2, b3, b4, -, -⟩ := si_b hi hb
  obtain ⟨q0, q1, q2, q3, q4⟩ := cv_b hc (b := b) (by omega)
  unfold d_X0_isOpen
  simp (disch := first | omega | (unfold sm; omega)) only [wq_bd, wq_some, wq_bnd, wq_ite, bnd_e, bd_some, lit_, neg_I, I_lt, I_le, I_eq, I_add, I_sub, I_mul, I_clamp, chk_I, wchk_I, I_succ, Int.toNat_natCast, Int.reduceToNat, b01, b01I, bd_ite, if_true, if_false, ite_self, reduceIte, Int.reduceLE, Int.reduceLT, Int.reduceAdd, Int.reduceSub, Int.reduceNeg, Nat.reduceEqDiff, Nat.reduceAdd, has0_I hc hi, q3]
  rw [if_neg (by omega)]
  by_cases c0 : S (45 + 5 * b) = 0
  · rw [if_pos c0, if_pos (by omega)]
  · rw [if_neg c0]
    by_cases c1 : S (45 + 5 * b) = 1
    · rw [if_pos c1, if_pos (by omega)]
    · rw [if_neg c1, if_neg (by omega)]
/-- a row more -/
theorem crB_add {c : Nat} {M : Mem} {S S' : Nat → Int} {W : List Wi} (hc : cv 0 M (S, W)) (hi : SInv (S, W)) (h42 : ∀ j, j < 42 → S' j = S j) {qs : List Nat} (hq : qs.length < 61) (h : crB c M S' qs) {b r : Nat} {bk : Nat} {st : Int} (hb60 : bk ≤ 60) (hr : (r : Int) < S 4) (hbk : (bk : Int) = nmS S' b) (e43 : S' (43 + 5 * b) = r) (e44 : S' (44 + 5 * b) = st) (eD : D0 S bk = D0 S' b) {Q : Int32 → Mem → Prop} (k : ∀ a M1, crB c M1 S' (qs ++ [b]) → (∀ i, i < 112 + 10 * c ∨ 122 + 10 * c ≤ i → M1 i = M i) → Q a M1) : wp (d_X1_addRow c 0 (I bk) (I r) (I st) M) Q := by
  obtain ⟨⟨n0, n1, n2, n3, n4, n5, n6⟩, hrow⟩ := h
  have h4 := (si_n hi).2.2.2.2.1
  have hrn : rcN S' b = r := by unfold rcN; rw [e43]; omega
  refine wp_mono (addRow_spec hc hi hq n6 hb60 hr) (fun a M1 q => k a M1 ?_ q.2.2.2.2)
  obtain ⟨q6, q0, qr, ⟨v1, v2, v3, v4, v5, v6, v7, v8, v9⟩, -⟩ := q
  have hlen : (qs ++ [b]).length = qs.length + 1 := by rw [List.length_append]; rfl
  refine ⟨⟨by rw [q0 0 (by decide)]; exact n0, by rw [q0 1 (by decide)]; exact n1, by rw [q0 2 (by decide)]; exact n2, by rw [q0 3 (by decide)]; exact n3, by rw [q0 4 (by decide)]; exact n4, by rw [q0 5 (by decide)]; exact n5, by rw [hlen]; exact q6⟩, fun y a' hy => ?_⟩
  by_cases hl : y < qs.length
  · rw [List.getElem?_append_left hl] at hy
    exact rowC_congr (hrow y a' hy) (fun j h1 h2 => qr j h1 h2 y (by omega))
  · have hb := (List.getElem?_eq_some_iff.mp hy).1
    rw [hlen] at hb
    have ey : y = qs.length := by omega
    subst ey
    rw [List.getElem?_append_right (by omega), Nat.sub_self] at hy
    cases hy
    have es : (D0 S' b).2.1 = 0 := by unfold D0; split <;> rfl
    have el : (D0 S' b).2.2.1 = 99999 := by unfold D0; split <;> rfl
    unfold rowC
    rw [hrn, e44, h42 _ (show 10 + 4 * r < 42 by omega), h42 _ (show 11 + 4 * r < 42 by omega), h42 _ (show 12 + 4 * r < 42 by omega), v1, v2, v3, v4, v5, v6, v7, v8, v9, eD, hbk, es, el]
    exact ⟨⟨rfl, rfl, rfl, rfl, rfl⟩, rfl, rfl, rfl, rfl⟩
theorem beg_L {c : Nat} {S S' : Nat → Int} {W : List Wi} (hi : SInv (S, W)) {out : Int} {ex : Bool} {chg rcp st : Int} (hs : Scn S S' out ex chg rcp st) (h1 : -1 ≤ chg ∧ chg ≤ 60) (h2 : -1 ≤ rcp ∧ rcp < S 4) (h2b : st ≠ -1 → 0 ≤ rcp) (h3 : -1 ≤ st ∧ st ≤ 9060) {kx : Mem → Ans} {Q : Int32 → Mem → Prop} : ∀ (d n x : Nat) (M : Mem), (x : Int) + d = S 5 → d < n → cv 0 M (S, W) → crB c M S' ((List.range' 0 x).filter (inP S' out)) → (∀ M1, crB c M1 S' ((List.range' 0 (S 5).toNat).filter (inP S' out)) → (∀ i, i < 112 + 10 * c ∨ 122 + 10 * c ≤ i → M1 i = M i) → wp (kx M1) Q) → wp (d_X1_beginWith_L51 c 0 (I chg) (I rcp) (I st) kx n (I x) M) Q
  | 0, n + 1, x, M, hx, hn, hc, h, k => by
    have h5 := (si_n hi).2.2.2.2.2.1
    have e5 := (cv_n hc).2.2.2.2.2.2.2.2.1
    rw [sd_X1_beginWith_L51]
    unfold d_X1_beginWith_L51_body
    simp (disch := first | omega | (unfold sm; omega)) only [wq_bd, wq_some, wq_bnd, wq_ite, bnd_e, bd_some, lit_, neg_I, I_lt, I_le, I_eq, I_add, I_sub, I_mul, I_clamp, chk_I, wchk_I, I_succ, Int.toNat_natCast, Int.reduceToNat, b01, b01I, bd_ite, if_true, if_false, ite_self, reduceIte, Int.reduceLE, Int.reduceLT, Int.reduceAdd, Int.reduceSub, Int.reduceNeg, Nat.reduceEqDiff, Nat.reduceAdd, e5]
    rw [if_pos (by omega)]
    refine k M ?_ (fun i _ => rfl)
    rw [show (S 5).toNat = x by omega]
    exact h
  | d + 1, n + 1, x, M, hx, hn, hc, h, k => by
    have h4 := (si_n hi).2.2.2.2.1
    have h5 := (si_n hi).2.2.2.2.2.1
    have h0 := (si_n hi).1
    have e5 := (cv_n hc).2.2.2.2.2.2.2.2.1
    have hb : (x : Int) < S 5 := by omega
    obtain ⟨b1, b2, b3, b4, -, -⟩ := si_b hi hb
    obtain ⟨q0, q1, q2, q3, q4⟩ := cv_b hc (b := x) (by omega)
    rw [rcN_e hi hb] at q1
    have hrc := rcN_l hi hb
    obtain ⟨s42, s1, s2, s3, s4, s5⟩ := id hs
    have e45 := (s2 x hb).1
    have e46 := (s2 x hb).2
    have eD : D0 S x = D0 S' x := by unfold D0; rw [s42 5 (by decide), e45, e46]
    have enm : (x : Int) = nmS S' x := by unfold nmS; rw [if_neg (by omega)]
    have hql : ((List.range' 0 x).filter (inP S' out)).length < 61 := by
      have := List.length_filter_le (inP S' out) (List.range' 0 x)
      rw [List.length_range'] at this
      omega
    have ern : (List.range' 0 (x + 1)).filter (inP S' out) = (List.range' 0 x).filter (inP S' out) ++ if inP S' out x = true then [x] else [] := by
      rw [List.range'_concat, List.filter_append, List.filter_cons, List.filter_nil]
      simp only [Nat.zero_add, Nat.one_mul]
    have ih := fun M => beg_L (c := c) hi hs h1 h2 h2b h3 (kx := kx) (Q := Q) d n (x + 1) M (by omega) (by omega)
    have fr : ∀ {M1 : Mem}, (∀ i, i < 112 + 10 * c ∨ 122 + 10 * c ≤ i → M1 i = M i) → cv 0 M1 (S, W) := fun e => cv_congr hc (fun j hj => e _ (by unfold sI; omega))
    rw [sd_X1_beginWith_L51]
    unfold d_X1_beginWith_L51_body
    simp (disch := first | omega | (unfold sm; omega)) only [wq_bd, wq_some, wq_bnd, wq_ite, bnd_e, bd_some, lit_, neg_I, I_lt, I_le, I_eq, I_add, I_sub, I_mul, I_clamp, chk_I, wchk_I, I_succ, Int.toNat_natCast, Int.reduceToNat, b01, b01I, bd_ite, if_true, if_false, ite_self, reduceIte, Int.reduceLE, Int.reduceLT, Int.reduceAdd, Int.reduceSub, Int.reduceNeg, Nat.reduceEqDiff, Nat.reduceAdd, e5]
    rw [if_neg (by omega)]
    have skip : inP S' out x = false → wp (d_X1_beginWith_L51 c 0 (I chg) (I rcp) (I st) kx n (I ((x + 1 : Nat) : Int)) M) Q := by
      intro hp
      rw [hp, if_neg (by decide), List.append_nil] at ern
      exact ih M hc (by rw [ern]; exact h) k
    by_cases c1 : (x : Int) = chg
    · have hch := s3 x hb c1
      rw [if_pos c1]
      simp (disch := first | omega | (unfold sm; omega)) only [wq_bd, wq_some, wq_bnd, wq_ite, bnd_e, bd_some, lit_, neg_I, I_lt, I_le, I_eq, I_add, I_sub, I_mul, I_clamp, chk_I, wchk_I, I_succ, Int.toNat_natCast, Int.reduceToNat, b01, b01I, bd_ite, if_true, if_false, ite_self, reduceIte, Int.reduceLE, Int.reduceLT, Int.reduceAdd, Int.reduceSub, Int.reduceNeg, Nat.reduceEqDiff, Nat.reduceAdd, d_X1_beginWith_B111, d_X1_beginWith_B132]
      rw [if_pos c1]
      by_cases c2 : st = -1
      · rw [if_pos c2] at hch ⊢
        exact skip (by unfold inP; exact decide_eq_false (fun h => h.2 hch))
      · rw [if_neg c2] at hch ⊢
        obtain ⟨g1, g2, g3, g4⟩ := hch
        have hin : inP S' out x = true := by unfold inP; exact decide_eq_true ⟨by rw [e45]; exact g1, g2⟩
        rw [hin, if_pos rfl] at ern
        have hrp : ∃ rp : Nat, rcp = rp ∧ (rp : Int) < S 4 := ⟨rcp.toNat, by have := h2b c2; omega, by have := h2b c2; omega⟩
        obtain ⟨rp, hrp1, hrp2⟩ := hrp
        rw [← c1, hrp1]
        refine crB_add hc hi s42 hql h (by omega) hrp2 enm (by rw [g3, hrp1]) g4 eD (fun a M2 z1 z2 => ?_)
        rw [← hrp1, c1]
        exact ih M2 (fr z2) (by rw [ern]; exact z1) (fun M1 y1 y2 => k M1 y1 (fun i hi => (y2 i hi).trans (z2 i hi)))
    · obtain ⟨g1, g2, g3⟩ := s1 x hb c1
      rw [if_neg c1, isOpen_I hc hi hb]
      simp (disch := first | omega | (unfold sm; omega)) only [wq_bd, wq_some, wq_bnd, wq_ite, bnd_e, bd_some, lit_, neg_I, I_lt, I_le, I_eq, I_add, I_sub, I_mul, I_clamp, chk_I, wchk_I, I_succ, Int.toNat_natCast, Int.reduceToNat, b01, b01I, bd_ite, if_true, if_false, ite_self, reduceIte, Int.reduceLE, Int.reduceLT, Int.reduceAdd, Int.reduceSub, Int.reduceNeg, Nat.reduceEqDiff, Nat.reduceAdd, d_X1_beginWith_B111, d_X1_beginWith_B132, q1, q2]
      by_cases c2 : S (45 + 5 * x) ≤ 1
      · rw [if_neg (fun h => h c2)]
        have hin : inP S' out x = true := by unfold inP; exact decide_eq_true ⟨by rw [e45]; exact c2, g1⟩
        rw [hin, if_pos rfl] at ern
        refine crB_add hc hi s42 hql h (by omega) hrc.1 enm (by rw [g2, rcN_e hi hb]) g3 eD (fun a M2 z1 z2 => ?_)
        exact ih M2 (fr z2) (by rw [ern]; exact z1) (fun M1 y1 y2 => k M1 y1 (fun i hi => (y2 i hi).trans (z2 i hi)))
      · rw [if_pos c2, if_neg c1]
        exact skip (by unfold inP; exact decide_eq_false (fun h => c2 (by rw [← e45]; exact h.1)))
  | _, 0, _, _, _, hn, _, _, _ => absurd hn (by omega)
theorem begW_spec {c : Nat} {M : Mem} {S S' : Nat → Int} {W : List Wi} (hc : cv 0 M (S, W)) (hi : SInv (S, W)) {out : Int} {ex : Bool} {chg rcp st : Int} (hs : Scn S S' out ex chg rcp st) (h1 : -1 ≤ chg ∧ chg ≤ 60) (h2 : -1 ≤ rcp ∧ rcp < S 4) (h2b : st ≠ -1 → 0 ≤ rcp) (h3 : -1 ≤ st ∧ st ≤ 9060) (hok : ScOk S' (rl S' out ex)) : wp (d_X1_beginWith c 0 (I chg) (I rcp) (I st) M) (fun _ M1 => crN c M1 S' (rl S' out ex) 0 ∧ ∀ i, i < 112 + 10 * c ∨ 122 + 10 * c ≤ i → M1 i = M i) := by
  obtain ⟨n0, n1, n2, n3, -, -, -, -, n5, -⟩ := cv_n hc
  have h5 := (si_n hi).2.2.2.2.2.1
  have h4 := (si_n hi).2.2.2.2.1
  obtain ⟨s42, s1, s2, s3, s4, s5⟩ := id hs
  have hlen := hok.2.2.2.2.2.2.2.2
  unfold d_X1_beginWith
  simp only [mup_cs (show 0 < 112 by decide), n0, n1, n2, n3, bnd_e]
  have hM7 : ∃ M7, M7 = mup (mup (mup (mup (mup (mup (mup M (cI c 0) 0 (I (S 0))) (cI c 0) 1 (I (S 1))) (cI c 0) 2 (I (S 2))) (cI c 0) 3 (I (S 3))) (cI c 0) 4 1000000) (cI c 0) 5 0) (cI c 0) 6 0 := ⟨_, rfl⟩
  obtain ⟨M7, hM7⟩ := hM7
  rw [← hM7]
  have fr7 : ∀ i, i < 112 + 10 * c ∨ 122 + 10 * c ≤ i → M7 i = M i := fun i hi => by
    have e : i ≠ cI c 0 := by unfold cI; omega
    rw [hM7, mup_n e, mup_n e, mup_n e, mup_n e, mup_n e, mup_n e, mup_n e]
  have hc7 : cv 0 M7 (S, W) := cv_congr hc (fun j hj => fr7 _ (by unfold sI; omega))
  -- the end, with all rows there
  have fin : ∀ M1, crB c M1 S' (rl S' out ex) → (∀ i, i < 112 + 10 * c ∨ 122 + 10 * c ≤ i → M1 i = M i) → wp (d_X1_beginWith_B164 c 0 M1) (fun _ M1 => crN c M1 S' (rl S' out ex) 0 ∧ ∀ i, i < 112 + 10 * c ∨ 122 + 10 * c ≤ i → M1 i = M i) := by
    intro M1 h z
    obtain ⟨⟨m0, m1, m2, m3, m4, m5, m6⟩, mrow⟩ := h
    unfold d_X1_beginWith_B164
    simp (disch := first | omega | (unfold sm; omega)) only [wq_bd, wq_some, wq_bnd, wq_ite, bnd_e, bd_some, lit_, neg_I, I_lt, I_le, I_eq, I_add, I_sub, I_mul, I_clamp, chk_I, wchk_I, I_succ, Int.toNat_natCast, Int.reduceToNat, b01, b01I, bd_ite, if_true, if_false, ite_self, reduceIte, Int.reduceLE, Int.reduceLT, Int.reduceAdd, Int.reduceSub, Int.reduceNeg, Nat.reduceEqDiff, Nat.reduceAdd, m6]
    refine ⟨⟨⟨?_, ?_, ?_, ?_, ?_, ?_, ?_, ?_⟩, fun r b hr => rowC_congr (mrow r b hr) (fun j h1 h2 => by rw [mup_c (by omega)])⟩, fun i hi => by rw [mup_n (by unfold cI; omega), z i hi]⟩
    · rw [mup_s, upd_n (by decide), m0]; congr 1; omega
    · rw [mup_s, upd_n (by decide), m1]; rfl
    · rw [mup_s, upd_n (by decide), m2]
    · rw [mup_s, upd_n (by decide), m3]
    · rw [mup_s, upd_n (by decide), m4]; rfl
    · rw [mup_s, upd_n (by decide), m5]; rfl
    · rw [mup_s, upd_n (by decide), m6]
    · rw [mup_s, upd_s]
      have : opn (rl S' out ex) (D0 S') = (rl S' out ex).length := by
        unfold opn
        rw [List.countP_eq_length]
        intro b hb
        exact decide_eq_true (hok.2.2.2.2.2.2.1 b hb).2.2.2.2.2.2
      unfold oS runS
      dsimp only
      rw [this]
  rw [show (0 : Int32) = I ((0 : Nat) : Int) from rfl]
  refine beg_L (c := c) hi hs h1 h2 h2b h3 (S 5).toNat fuelN 0 M7 (by omega) (by unfold fuelN; omega) hc7 ?_ (fun M1 z1 z2 => ?_)
  · refine ⟨⟨?_, ?_, ?_, ?_, ?_, ?_, ?_⟩, fun r b hr => ?_⟩
    · rw [hM7, mup_s, upd_n (by decide), mup_s, upd_n (by decide), mup_s, upd_n (by decide), mup_s, upd_n (by decide), mup_s, upd_n (by decide), mup_s, upd_n (by decide), mup_s, upd_s, s42 0 (by decide)]
    · rw [hM7, mup_s, upd_n (by decide), mup_s, upd_n (by decide), mup_s, upd_n (by decide), mup_s, upd_n (by decide), mup_s, upd_n (by decide), mup_s, upd_s, s42 1 (by decide)]
    · rw [hM7, mup_s, upd_n (by decide), mup_s, upd_n (by decide), mup_s, upd_n (by decide), mup_s, upd_n (by decide), mup_s, upd_s, s42 2 (by decide)]
    · rw [hM7, mup_s, upd_n (by decide), mup_s, upd_n (by decide), mup_s, upd_n (by decide), mup_s, upd_s, s42 3 (by decide)]
    · rw [hM7, mup_s, upd_n (by decide), mup_s, upd_n (by decide), mup_s, upd_s]; rfl
    · rw [hM7, mup_s, upd_n (by decide), mup_s, upd_s]; rfl
    · rw [hM7, mup_s, upd_s]; rfl
    · simp at hr
  · have hc1 : cv 0 M1 (S, W) := cv_congr hc7 (fun j hj => z2 _ (by unfold sI; omega))
    have e5 := (cv_n hc1).2.2.2.2.2.2.2.2.1
    have eS5 : S' 5 = S 5 := s42 5 (by decide)
    simp (disch := first | omega | (unfold sm; omega)) only [wq_bd, wq_some, wq_bnd, wq_ite, bnd_e, bd_some, lit_, neg_I, I_lt, I_le, I_eq, I_add, I_sub, I_mul, I_clamp, chk_I, wchk_I, I_succ, Int.toNat_natCast, Int.reduceToNat, b01, b01I, bd_ite, if_true, if_false, ite_self, reduceIte, Int.reduceLE, Int.reduceLT, Int.reduceAdd, Int.reduceSub, Int.reduceNeg, Nat.reduceEqDiff, Nat.reduceAdd, e5]
    have erl : ∀ e, ex = e → rl S' out ex = (List.range' 0 (S 5).toNat).filter (inP S' out) ++ if e then [60] else [] := fun e he => by unfold rl; rw [eS5, he]
    by_cases c1 : chg < S 5
    · rw [if_pos c1]
      have he : ex = false := by
        cases ex with
        | false => rfl
        | true => exact absurd (s4.mp rfl).1 (by omega)
      refine fin M1 ?_ (fun i hi => (z2 i hi).trans (fr7 i hi))
      rw [erl _ he]
      simpa using z1
    · rw [if_neg c1]
      by_cases c2 : st = -1
      · rw [if_pos c2]
        have he : ex = false := by
          cases ex with
          | false => rfl
          | true => exact absurd c2 (s4.mp rfl).2
        refine fin M1 ?_ (fun i hi => (z2 i hi).trans (fr7 i hi))
        rw [erl _ he]
        simpa using z1
      · rw [if_neg c2]
        have he : ex = true := s4.mpr ⟨by omega, c2⟩
        obtain ⟨t1, t2, t3⟩ := s5 he
        have hrl := erl _ he
        rw [if_pos rfl] at hrl
        have hql : ((List.range' 0 (S 5).toNat).filter (inP S' out)).length < 61 := by
          rw [hrl, List.length_append] at hlen
          simp only [List.length_cons, List.length_nil] at hlen
          omega
        obtain ⟨rp, hrp⟩ : ∃ rp : Nat, rcp = rp := ⟨rcp.toNat, by have := h2b c2; omega⟩
        obtain ⟨bk, hbk⟩ : ∃ bk : Nat, chg = bk := ⟨chg.toNat, by omega⟩
        have hD : D0 S bk = D0 S' 60 := by
          unfold D0
          rw [if_neg (by omega), if_neg (by rw [eS5]; omega)]
        rw [hrp, hbk]
        refine crB_add (b := 60) hc1 hi s42 hql z1 (by omega) (by omega) (by unfold nmS; rw [if_pos rfl, eS5]; omega) (by rw [← hrp]; exact t2) t3 hD (fun a M2 y1 y2 => ?_)
        rw [← hrl] at y1
        exact fin M2 y1 (fun i hi => (y2 i hi).trans ((z2 i hi).trans (fr7 i hi)))
/-! who takes part in a forecast -/
theorem rl_mem {S : Nat → Int} {out : Int} {ex : Bool} {b : Nat} : b ∈ rl S out ex ↔ (((b : Int) < S 5 ∧ S (45 + 5 * b) ≤ 1 ∧ (b : Int) ≠ out) ∨ (ex = true ∧ b = 60)) := by
  unfold rl
  rw [List.mem_append, List.mem_filter, List.mem_range'_1]
  unfold inP
  rw [decide_eq_true_iff]
  constructor
  · rintro (⟨h1, h2⟩ | h)
    · exact Or.inl ⟨by omega, h2⟩
    · cases ex with
      | false => rw [if_neg (by decide)] at h; cases h
      | true => rw [if_pos rfl] at h; exact Or.inr ⟨rfl, List.mem_singleton.mp h⟩
  · rintro (⟨h1, h2⟩ | ⟨h1, h2⟩)
    · exact Or.inl ⟨by omega, h2⟩
    · subst h1
      rw [if_pos rfl]
      exact Or.inr (List.mem_singleton.mpr h2)
theorem rl_nd {S : Nat → Int} {out : Int} {ex : Bool} (h5 : S 5 ≤ 60) : (rl S out ex).Nodup := by
  unfold rl
  have h1 : ((List.range' 0 (S 5).toNat).filter (inP S out)).Nodup := List.Nodup.sublist List.filter_sublist List.nodup_range'
  rw [List.nodup_append]
  refine ⟨h1, ?_, fun a ha b hb => ?_⟩
  · cases ex with
    | false => exact List.nodup_nil
    | true => exact List.nodup_cons.mpr ⟨List.not_mem_nil, List.nodup_nil⟩
  · have := List.mem_range'_1.mp (List.mem_filter.mp ha).1
    cases ex with
    | false => rw [if_neg (by decide)] at hb; cases hb
    | true =>
      rw [if_pos rfl] at hb
      have := List.mem_singleton.mp hb
      omega
theorem rl_len {S : Nat → Int} {out : Int} {ex : Bool} (h5 : S 5 ≤ 60) : (rl S out ex).length ≤ 61 := by
  unfold rl
  rw [List.length_append]
  have := List.length_filter_le (inP S out) (List.range' 0 (S 5).toNat)
  rw [List.length_range'] at this
  cases ex with
  | false => rw [if_neg (by decide)]; simp only [List.length_nil]; omega
  | true => rw [if_pos rfl]; simp only [List.length_cons, List.length_nil]; omega
theorem scn_ok {S S' : Nat → Int} {W : List Wi} (hi : SInv (S, W)) {out : Int} {ex : Bool} {chg rcp st : Int} (hs : Scn S S' out ex chg rcp st) (h2 : st ≠ -1 → 0 ≤ rcp ∧ rcp < S 4) (h3 : st ≠ -1 → 1 ≤ st ∧ st ≤ 9060) : ScOk S' (rl S' out ex) := by
  obtain ⟨g0, g1, g2, g3, g4, g5, -⟩ := si_n hi
  obtain ⟨s42, s1, s2, s3, s4, s5⟩ := hs
  have eS5 : S' 5 = S 5 := s42 5 (by decide)
  have eS4 : S' 4 = S 4 := s42 4 (by decide)
  have rc : ∀ r : Nat, (r : Int) < S 4 → rcOk S' r := fun r hr => by
    have := si_r hi hr
    unfold rcOk at this ⊢
    rw [s42 _ (by omega), s42 _ (by omega), s42 _ (by omega), s42 _ (by omega)]
    exact this
  have fromN : ∀ b : Nat, ∀ v : Int, S' (43 + 5 * b) = v → 0 ≤ v → v < S 4 → S' (43 + 5 * b) = (rcN S' b : Int) ∧ (rcN S' b : Int) < S' 4 ∧ rcOk S' (rcN S' b) := fun b v h1 h2 h3 => by
    have e : S' (43 + 5 * b) = (rcN S' b : Int) := by unfold rcN; omega
    refine ⟨e, by omega, rc _ (by omega)⟩
  refine ⟨by rw [s42 0 (by decide)]; exact g0, by rw [s42 1 (by decide), s42 2 (by decide)]; exact g1, by rw [s42 2 (by decide)]; exact g2, by rw [s42 3 (by decide)]; exact g3, by rw [eS4]; exact g4, by rw [eS5]; exact g5, fun b hb => ?_, rl_nd (by omega), rl_len (by omega)⟩
  rcases rl_mem.mp hb with ⟨h5, h1, ho⟩ | ⟨he, h60⟩
  · rw [eS5] at h5
    obtain ⟨b1, b2, b3, b4, b5, b6⟩ := si_b hi h5
    have e45 := (s2 b h5).1
    have hD : 0 ≤ (D0 S' b).1 ∧ (D0 S' b).1 ≤ 1 := by
      unfold D0
      rw [if_pos (by omega)]
      dsimp only
      omega
    by_cases c : (b : Int) = chg
    · have := s3 b h5 c
      by_cases z : st = -1
      · rw [if_pos z] at this
        exact absurd this ho
      · rw [if_neg z] at this
        obtain ⟨t1, t2, t3, t4⟩ := this
        obtain ⟨u1, u2, u3⟩ := fromN b rcp t3 (h2 z).1 (h2 z).2
        have := h3 z
        exact ⟨by omega, u1, u2, u3, by omega, hD⟩
    · obtain ⟨t1, t2, t3⟩ := s1 b h5 c
      obtain ⟨u1, u2, u3⟩ := fromN b _ t2 b2.1 b2.2
      exact ⟨by omega, u1, u2, u3, by omega, hD⟩
  · obtain ⟨t1, t2, t3⟩ := s5 he
    have hz := (s4.mp he).2
    subst h60
    obtain ⟨u1, u2, u3⟩ := fromN 60 rcp t2 (h2 hz).1 (h2 hz).2
    have hD : 0 ≤ (D0 S' 60).1 ∧ (D0 S' 60).1 ≤ 1 := by
      unfold D0
      rw [if_neg (by omega)]
      dsimp only
      omega
    have := h3 hz
    exact ⟨by omega, u1, u2, u3, by rw [show 44 + 5 * 60 = 344 from rfl]; omega, hD⟩
theorem sc_plain (S : Nat → Int) (chg : Int) (hc : chg < 0 ∨ chg = S 5) : Scn S S (-1) false chg (-1) (-1) :=
  ⟨fun _ _ => rfl, fun b hb hn => ⟨by omega, rfl, rfl⟩, fun _ _ => ⟨rfl, rfl⟩, fun b hb he => absurd he (by omega), ⟨fun h => (by cases h), fun h => absurd rfl h.2⟩, fun h => (by cases h)⟩
theorem sc_out (S : Nat → Int) (k : Nat) : Scn S S k false k (-1) (-1) :=
  ⟨fun _ _ => rfl, fun b hb hn => ⟨hn, rfl, rfl⟩, fun _ _ => ⟨rfl, rfl⟩, fun b hb he => by rw [if_pos rfl]; exact he, ⟨fun h => (by cases h), fun h => absurd rfl h.2⟩, fun h => (by cases h)⟩
theorem sc_mv {S : Nat → Int} {k : Nat} (hk : (k : Int) < S 5) (ho : S (45 + 5 * k) ≤ 1) {st : Int} (hst : 1 ≤ st) : Scn S (setS S (44 + 5 * k) st) (-1) false k (S (43 + 5 * k)) st :=
  ⟨fun j hj => setS_n (by omega), fun b hb hn => ⟨by omega, setS_n (by omega), setS_n (by omega)⟩, fun b hb => ⟨setS_n (by omega), setS_n (by omega)⟩, fun b hb he => by
    have : b = k := by omega
    subst this
    rw [if_neg (by omega)]
    exact ⟨ho, by omega, setS_n (by omega), setS_s⟩, ⟨fun h => (by cases h), fun h => absurd h.1 (by omega)⟩, fun h => (by cases h)⟩
def exS (S : Nat → Int) (rc st : Int) : Nat → Int := setS (setS S 343 rc) 344 st
theorem exS_n {S : Nat → Int} {rc st : Int} {j : Nat} (h : j < 343 ∨ 344 < j) : exS S rc st j = S j := by
  unfold exS
  rw [setS_n (by omega), setS_n (by omega)]
theorem sc_ex {S : Nat → Int} (h5 : S 5 ≤ 60) {rc st : Int} (hst : 1 ≤ st) : Scn S (exS S rc st) (-1) true (S 5) rc st :=
  ⟨fun j hj => exS_n (by omega), fun b hb hn => ⟨by omega, exS_n (by omega), exS_n (by omega)⟩, fun b hb => ⟨exS_n (by omega), exS_n (by omega)⟩, fun b hb he => absurd he (by omega), ⟨fun _ => ⟨by omega, by omega⟩, fun _ => rfl⟩, fun _ => ⟨rfl, by unfold exS; rw [setS_n (by decide), setS_s], by unfold exS; rw [setS_s]⟩⟩
/-! the rows of a forecast's end -/
theorem rowOf_L {c : Nat} {M : Mem} {S : Nat → Int} {ps : List Nat} (h : crE c M S ps) (hlen : ps.length ≤ 61) (h5 : 0 ≤ S 5 ∧ S 5 ≤ 60) (hps : ∀ b ∈ ps, b ≤ 60) {a : Int} (ha : -1 ≤ a ∧ a ≤ 60) {kx : Mem → Ans} : ∀ (d n x : Nat), x + d = ps.length → d < n → d_X1_rowOf_L2 c (I a) kx n (I x) M = (match (ps.drop x).findIdx? (fun b => decide (nmS S b = a)) with | some k => some (I (x + k : Nat), M) | none => kx M)
  | 0, n + 1, x, hx, hn => by
    have h6 := h.1
    rw [sd_X1_rowOf_L2]
    unfold d_X1_rowOf_L2_body
    simp (disch := first | omega | (unfold sm; omega)) only [wq_bd, wq_some, wq_bnd, wq_ite, bnd_e, bd_some, lit_, neg_I, I_lt, I_le, I_eq, I_add, I_sub, I_mul, I_clamp, chk_I, wchk_I, I_succ, Int.toNat_natCast, Int.reduceToNat, b01, b01I, bd_ite, if_true, if_false, ite_self, reduceIte, Int.reduceLE, Int.reduceLT, Int.reduceAdd, Int.reduceSub, Int.reduceNeg, Nat.reduceEqDiff, Nat.reduceAdd, h6]
    rw [if_pos (by omega), List.drop_eq_nil_of_le (by omega)]
    rfl
  | d + 1, n + 1, x, hx, hn => by
    have h6 := h.1
    have hget : ps[x]? = some ps[x] := List.getElem?_eq_getElem (by omega)
    have r1 := (h.2 x _ hget).1.1
    have hb := hps _ (List.mem_of_getElem? hget)
    have edrop : ps.drop x = ps[x] :: ps.drop (x + 1) := List.drop_eq_getElem_cons (by omega)
    have ih := rowOf_L h hlen h5 hps ha (kx := kx) d n (x + 1) (by omega) (by omega)
    have hnm : 0 ≤ nmS S ps[x] ∧ nmS S ps[x] ≤ 60 := by unfold nmS; split <;> omega
    rw [sd_X1_rowOf_L2, edrop, List.findIdx?_cons]
    unfold d_X1_rowOf_L2_body
    simp (disch := first | omega | (unfold sm; omega)) only [wq_bd, wq_some, wq_bnd, wq_ite, bnd_e, bd_some, lit_, neg_I, I_lt, I_le, I_eq, I_add, I_sub, I_mul, I_clamp, chk_I, wchk_I, I_succ, Int.toNat_natCast, Int.reduceToNat, b01, b01I, bd_ite, if_true, if_false, ite_self, reduceIte, Int.reduceLE, Int.reduceLT, Int.reduceAdd, Int.reduceSub, Int.reduceNeg, Nat.reduceEqDiff, Nat.reduceAdd, h6, r1, ih]
    rw [if_neg (by omega)]
    by_cases e : nmS S ps[x] = a
    · rw [if_pos e, if_pos (decide_eq_true e)]
      rfl
    · rw [if_neg e, if_neg (by rw [decide_eq_false e]; decide)]
      cases (ps.drop (x + 1)).findIdx? (fun b => decide (nmS S b = a)) with
      | none => rfl
      | some k =>
        simp only [Option.map_some]
        rw [show x + 1 + k = x + (k + 1) by omega]
  | _, 0, _, _, hn => absurd hn (by omega)
theorem rowOf_none {c : Nat} {M : Mem} {S : Nat → Int} {ps : List Nat} (h : crE c M S ps) (hlen : ps.length ≤ 61) (h5 : 0 ≤ S 5 ∧ S 5 ≤ 60) (hps : ∀ b ∈ ps, b ≤ 60) {a : Int} (ha : -1 ≤ a ∧ a ≤ 60) (hn : ∀ b ∈ ps, nmS S b ≠ a) : d_X1_rowOf c (I a) M = some (I (-1), M) := by
  unfold d_X1_rowOf
  rw [show (0 : Int32) = I ((0 : Nat) : Int) from rfl, rowOf_L h hlen h5 hps ha ps.length fuelN 0 (by omega) (by unfold fuelN; omega), List.drop_zero]
  have : ps.findIdx? (fun b => decide (nmS S b = a)) = none := by
    rw [List.findIdx?_eq_none_iff]
    intro b hb
    exact decide_eq_false (hn b hb)
  rw [this]
  rfl
theorem rowOf_some {c : Nat} {M : Mem} {S : Nat → Int} {ps : List Nat} (h : crE c M S ps) (hlen : ps.length ≤ 61) (h5 : 0 ≤ S 5 ∧ S 5 ≤ 60) (hps : ∀ b ∈ ps, (b : Int) < S 5 ∨ b = 60) {b : Nat} (hb : b ∈ ps) : ∃ x : Nat, ps[x]? = some b ∧ x < 61 ∧ d_X1_rowOf c (I (nmS S b)) M = some (I x, M) := by
  have hps2 : ∀ b ∈ ps, b ≤ 60 := fun b hb => by have := hps b hb; omega
  have hnm : -1 ≤ nmS S b ∧ nmS S b ≤ 60 := by have := hps b hb; unfold nmS; split <;> omega
  unfold d_X1_rowOf
  rw [show (0 : Int32) = I ((0 : Nat) : Int) from rfl, rowOf_L h hlen h5 hps2 hnm ps.length fuelN 0 (by omega) (by unfold fuelN; omega), List.drop_zero]
  cases hf : ps.findIdx? (fun y => decide (nmS S y = nmS S b)) with
  | none =>
    have := List.findIdx?_eq_none_iff.mp hf b hb
    rw [decide_eq_false_iff_not] at this
    exact absurd rfl this
  | some x =>
    obtain ⟨hx, h1, h2⟩ := List.findIdx?_eq_some_iff_getElem.mp hf
    rw [decide_eq_true_iff] at h1
    have hxm : ps[x] ∈ ps := List.getElem_mem hx
    have he : ps[x] = b := by
      have g1 := hps b hb
      have g2 := hps _ hxm
      unfold nmS at h1
      by_cases c1 : ps[x] = 60 <;> by_cases c2 : b = 60
      · omega
      · rw [if_pos c1, if_neg c2] at h1; omega
      · rw [if_neg c1, if_pos c2] at h1; omega
      · rw [if_neg c1, if_neg c2] at h1; omega
    refine ⟨x, by rw [List.getElem?_eq_getElem hx, he], by omega, ?_⟩
    dsimp only
    rw [Nat.zero_add]
theorem cspo_L {c : Nat} {M : Mem} {S : Nat → Int} {ps : List Nat} (h : crE c M S ps) (hs : ScOk S ps) {kx : Int32 → Mem → Ans} : ∀ (d n x : Nat) (a : Int), x + d = ps.length → d < n → d_X1_countSpoiled_L4 c kx n (I a) (I x) M = kx (I (a + ((ps.drop x).countP (fun b => decide (((runS S ps 80).2.2 b).1 = 3)) : Nat))) M
  | 0, n + 1, x, a, hx, hn => by
    have h6 := h.1
    have hlen := hs.2.2.2.2.2.2.2.2
    rw [sd_X1_countSpoiled_L4]
    unfold d_X1_countSpoiled_L4_body
    simp (disch := first | omega | (unfold sm; omega)) only [wq_bd, wq_some, wq_bnd, wq_ite, bnd_e, bd_some, lit_, neg_I, I_lt, I_le, I_eq, I_add, I_sub, I_mul, I_clamp, chk_I, wchk_I, I_succ, Int.toNat_natCast, Int.reduceToNat, b01, b01I, bd_ite, if_true, if_false, ite_self, reduceIte, Int.reduceLE, Int.reduceLT, Int.reduceAdd, Int.reduceSub, Int.reduceNeg, Nat.reduceEqDiff, Nat.reduceAdd, h6]
    rw [if_pos (by omega), List.drop_eq_nil_of_le (by omega)]
    exact congrFun (congrArg kx (congrArg I (show a = a + ((0 : Nat) : Int) by omega))) M
  | d + 1, n + 1, x, a, hx, hn => by
    have h6 := h.1
    have hlen := hs.2.2.2.2.2.2.2.2
    have hget : ps[x]? = some ps[x] := List.getElem?_eq_getElem (by omega)
    have r2 := (h.2 x _ hget).2.1
    have hce := ((run_FI hs 80).2 _ (List.mem_of_getElem? hget)).1
    have edrop : ps.drop x = ps[x] :: ps.drop (x + 1) := List.drop_eq_getElem_cons (by omega)
    have ih := fun a => cspo_L h hs (kx := kx) d n (x + 1) a (by omega) (by omega)
    rw [sd_X1_countSpoiled_L4, edrop, List.countP_cons]
    unfold d_X1_countSpoiled_L4_body
    simp (disch := first | omega | (unfold sm; omega)) only [wq_bd, wq_some, wq_bnd, wq_ite, bnd_e, bd_some, lit_, neg_I, I_lt, I_le, I_eq, I_add, I_sub, I_mul, I_clamp, chk_I, wchk_I, I_succ, Int.toNat_natCast, Int.reduceToNat, b01, b01I, bd_ite, if_true, if_false, ite_self, reduceIte, Int.reduceLE, Int.reduceLT, Int.reduceAdd, Int.reduceSub, Int.reduceNeg, Nat.reduceEqDiff, Nat.reduceAdd, h6, r2, d_X1_countSpoiled_B25, ih]
    rw [if_neg (by omega)]
    by_cases e : ((runS S ps 80).2.2 ps[x]).1 = 3
    · rw [if_pos e, if_pos (decide_eq_true e)]
      congr 2
      omega
    · rw [if_neg e, if_neg (by rw [decide_eq_false e]; decide)]
      rfl
  | _, 0, _, _, _, hn => absurd hn (by omega)
theorem cspo_I {c : Nat} {M : Mem} {S : Nat → Int} {ps : List Nat} (h : crE c M S ps) (hs : ScOk S ps) : d_X1_countSpoiled c M = some (I ((ps.countP (fun b => decide (((runS S ps 80).2.2 b).1 = 3)) : Nat)), M) := by
  have hlen := hs.2.2.2.2.2.2.2.2
  unfold d_X1_countSpoiled
  rw [show (0 : Int32) = I ((0 : Nat) : Int) from rfl]
  refine (cspo_L h hs ps.length fuelN 0 0 (by omega) (by unfold fuelN; omega)).trans ?_
  rw [List.drop_zero, Int.zero_add]
