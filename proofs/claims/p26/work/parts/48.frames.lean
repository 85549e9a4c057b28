/-! frames: what a denotation leaves alone -/
def PC (i : Nat) : Prop := 143 ≤ i
def PR (i : Nat) : Prop := i < 143
def Fr (P : Nat → Prop) (M : Mem) (o : Ans) : Prop := (∀ r M', o = some (r, M') → ∀ i, P i → M' i = M i) ∧ True
theorem Fr_none {P : Nat → Prop} {M : Mem} : Fr P M none := ⟨fun _ _ h => (by cases h), trivial⟩
theorem Fr_some {P : Nat → Prop} {M : Mem} {r : Int32} : Fr P M (some (r, M)) := ⟨fun _ _ h i _ => by cases h; rfl, trivial⟩
theorem Fr_ite {P : Nat → Prop} {M : Mem} {c : Prop} [Decidable c] {o1 o2 : Ans} (h1 : Fr P M o1) (h2 : Fr P M o2) : Fr P M (if c then o1 else o2) := by
  split
  · exact h1
  · exact h2
theorem Fr_chk {P : Nat → Prop} {M : Mem} {i : Int32} {n : Nat} {o : Ans} (h : Fr P M o) : Fr P M (chk i n o) := by
  unfold chk
  exact Fr_ite Fr_none h
theorem Fr_nar {P : Nat → Prop} {M : Mem} {ty : FieldType} {v : Int32} {o : Ans} (h : Fr P M o) : Fr P M (nar ty v o) := by
  unfold nar
  exact Fr_ite h Fr_none
theorem Fr_stk {P : Nat → Prop} {M : Mem} {v : Int32} {k : Nat → Ans} (h : ∀ q, q < 7 → Fr P M (k q)) : Fr P M (stk v k) := by
  unfold stk
  by_cases c : v.toNatClampNeg < 7
  · rw [if_pos c]; exact h _ c
  · rw [if_neg c]; exact Fr_none
theorem Fr_mset {P : Nat → Prop} {M : Mem} {a : Nat} {f : Nat → Int32} {k : Mem → Ans} (hn : ∀ i, P i → i ≠ a) (h : ∀ M1, Fr P M1 (k M1)) : Fr P M (bnd (mset M a f) k) := ⟨fun r M' ho i hi => by
  rw [(h _).1 r M' ho i hi]
  unfold mset
  rw [if_neg (hn i hi)], trivial⟩
theorem Fr_mup {P : Nat → Prop} {M : Mem} {a j : Nat} {v : Int32} {k : Mem → Ans} (hn : ∀ i, P i → i ≠ a) (h : ∀ M1, Fr P M1 (k M1)) : Fr P M (bnd (mup M a j v) k) := Fr_mset hn h
theorem Fr_bnd {P : Nat → Prop} {M : Mem} {a : Int32} {k : Int32 → Ans} (h : ∀ v, Fr P M (k v)) : Fr P M (bnd a k) := h a
theorem Fr_bd {P : Nat → Prop} {M : Mem} {o : Ans} {k : Int32 → Mem → Ans} (h1 : Fr P M o) (h : ∀ r M1, Fr P M1 (k r M1)) : Fr P M (bd o k) := by
  cases ho : o with
  | none => exact Fr_none
  | some q => exact ⟨fun r M' hq i hi => ((h q.1 q.2).1 r M' hq i hi).trans (h1.1 q.1 q.2 ho i hi), trivial⟩
theorem PC_s {k j i : Nat} (hk : k < 7) (hj : j < 16) (h : PC i) : i ≠ sI k j := by unfold PC at h; unfold sI; omega
theorem PC_c {k j i : Nat} (hk : k < 2) (hj : j < 10) (h : PC i) : i ≠ cI k j := by unfold PC at h; unfold cI; omega
theorem PC_n {n i : Nat} (hn : n < 143) (h : PC i) : i ≠ n := by unfold PC at h; omega
theorem PR_n {n i : Nat} (hn : 143 ≤ n) (h : PR i) : i ≠ n := by unfold PR at h; omega
theorem frd_X0_has (q0 : Nat) (p1 : Int32) (hq0 : q0 < 7) (M : Mem) : Fr PC M (d_X0_has q0 p1 M) := by
  unfold d_X0_has
  with_reducible repeat' (first | exact Fr_some | refine Fr_ite ?_ ?_ | refine Fr_chk ?_ | refine Fr_nar ?_ | refine Fr_stk (fun _ _ => ?_) | refine Fr_mup (fun _ hi => PC_s (by assumption) (by decide) hi) (fun _ => ?_) | refine Fr_mup (fun _ hi => PC_s (by decide) (by decide) hi) (fun _ => ?_) | refine Fr_mup (fun _ hi => PC_c (by assumption) (by decide) hi) (fun _ => ?_) | refine Fr_mup (fun _ hi => PC_c (by decide) (by decide) hi) (fun _ => ?_) | refine Fr_mup (fun _ hi => PC_n (by decide) hi) (fun _ => ?_) | refine Fr_mset (fun _ hi => PC_s (by assumption) (by decide) hi) (fun _ => ?_) | refine Fr_mset (fun _ hi => PC_s (by decide) (by decide) hi) (fun _ => ?_) | refine Fr_mset (fun _ hi => PC_c (by assumption) (by decide) hi) (fun _ => ?_) | refine Fr_mset (fun _ hi => PC_c (by decide) (by decide) hi) (fun _ => ?_) | refine Fr_mset (fun _ hi => PC_n (by decide) hi) (fun _ => ?_) | refine Fr_bnd (fun _ => ?_) | refine Fr_bd ?_ (fun _ _ => ?_) | assumption | decide | intro _)

theorem frd_X0_append (q0 : Nat) (p1 : Int32) (p2 : Int32) (p3 : Int32) (hq0 : q0 < 7) (M : Mem) : Fr PC M (d_X0_append q0 p1 p2 p3 M) := by
  unfold d_X0_append
  with_reducible repeat' (first | exact Fr_some | refine Fr_ite ?_ ?_ | refine Fr_chk ?_ | refine Fr_nar ?_ | refine Fr_stk (fun _ _ => ?_) | refine Fr_mup (fun _ hi => PC_s (by assumption) (by decide) hi) (fun _ => ?_) | refine Fr_mup (fun _ hi => PC_s (by decide) (by decide) hi) (fun _ => ?_) | refine Fr_mup (fun _ hi => PC_c (by assumption) (by decide) hi) (fun _ => ?_) | refine Fr_mup (fun _ hi => PC_c (by decide) (by decide) hi) (fun _ => ?_) | refine Fr_mup (fun _ hi => PC_n (by decide) hi) (fun _ => ?_) | refine Fr_mset (fun _ hi => PC_s (by assumption) (by decide) hi) (fun _ => ?_) | refine Fr_mset (fun _ hi => PC_s (by decide) (by decide) hi) (fun _ => ?_) | refine Fr_mset (fun _ hi => PC_c (by assumption) (by decide) hi) (fun _ => ?_) | refine Fr_mset (fun _ hi => PC_c (by decide) (by decide) hi) (fun _ => ?_) | refine Fr_mset (fun _ hi => PC_n (by decide) hi) (fun _ => ?_) | refine Fr_bnd (fun _ => ?_) | refine Fr_bd ?_ (fun _ _ => ?_) | assumption | decide | intro _)

theorem frd_X0_stateOf (q0 : Nat) (p1 : Int32) (hq0 : q0 < 7) (M : Mem) : Fr PC M (d_X0_stateOf q0 p1 M) := by
  unfold d_X0_stateOf
  with_reducible repeat' (first | exact Fr_some | refine Fr_ite ?_ ?_ | refine Fr_chk ?_ | refine Fr_nar ?_ | refine Fr_stk (fun _ _ => ?_) | refine Fr_mup (fun _ hi => PC_s (by assumption) (by decide) hi) (fun _ => ?_) | refine Fr_mup (fun _ hi => PC_s (by decide) (by decide) hi) (fun _ => ?_) | refine Fr_mup (fun _ hi => PC_c (by assumption) (by decide) hi) (fun _ => ?_) | refine Fr_mup (fun _ hi => PC_c (by decide) (by decide) hi) (fun _ => ?_) | refine Fr_mup (fun _ hi => PC_n (by decide) hi) (fun _ => ?_) | refine Fr_mset (fun _ hi => PC_s (by assumption) (by decide) hi) (fun _ => ?_) | refine Fr_mset (fun _ hi => PC_s (by decide) (by decide) hi) (fun _ => ?_) | refine Fr_mset (fun _ hi => PC_c (by assumption) (by decide) hi) (fun _ => ?_) | refine Fr_mset (fun _ hi => PC_c (by decide) (by decide) hi) (fun _ => ?_) | refine Fr_mset (fun _ hi => PC_n (by decide) hi) (fun _ => ?_) | refine Fr_bnd (fun _ => ?_) | refine Fr_bd ?_ (fun _ _ => ?_) | apply frd_X0_has | assumption | decide | intro _)

theorem frd_X0_isOpen (q0 : Nat) (p1 : Int32) (hq0 : q0 < 7) (M : Mem) : Fr PC M (d_X0_isOpen q0 p1 M) := by
  unfold d_X0_isOpen
  with_reducible repeat' (first | exact Fr_some | refine Fr_ite ?_ ?_ | refine Fr_chk ?_ | refine Fr_nar ?_ | refine Fr_stk (fun _ _ => ?_) | refine Fr_mup (fun _ hi => PC_s (by assumption) (by decide) hi) (fun _ => ?_) | refine Fr_mup (fun _ hi => PC_s (by decide) (by decide) hi) (fun _ => ?_) | refine Fr_mup (fun _ hi => PC_c (by assumption) (by decide) hi) (fun _ => ?_) | refine Fr_mup (fun _ hi => PC_c (by decide) (by decide) hi) (fun _ => ?_) | refine Fr_mup (fun _ hi => PC_n (by decide) hi) (fun _ => ?_) | refine Fr_mset (fun _ hi => PC_s (by assumption) (by decide) hi) (fun _ => ?_) | refine Fr_mset (fun _ hi => PC_s (by decide) (by decide) hi) (fun _ => ?_) | refine Fr_mset (fun _ hi => PC_c (by assumption) (by decide) hi) (fun _ => ?_) | refine Fr_mset (fun _ hi => PC_c (by decide) (by decide) hi) (fun _ => ?_) | refine Fr_mset (fun _ hi => PC_n (by decide) hi) (fun _ => ?_) | refine Fr_bnd (fun _ => ?_) | refine Fr_bd ?_ (fun _ _ => ?_) | apply frd_X0_has | assumption | decide | intro _)

theorem frd_X0_keepsBusy (q0 : Nat) (p1 : Int32) (p2 : Int32) (hq0 : q0 < 7) (M : Mem) : Fr PC M (d_X0_keepsBusy q0 p1 p2 M) := by
  unfold d_X0_keepsBusy
  with_reducible repeat' (first | exact Fr_some | refine Fr_ite ?_ ?_ | refine Fr_chk ?_ | refine Fr_nar ?_ | refine Fr_stk (fun _ _ => ?_) | refine Fr_mup (fun _ hi => PC_s (by assumption) (by decide) hi) (fun _ => ?_) | refine Fr_mup (fun _ hi => PC_s (by decide) (by decide) hi) (fun _ => ?_) | refine Fr_mup (fun _ hi => PC_c (by assumption) (by decide) hi) (fun _ => ?_) | refine Fr_mup (fun _ hi => PC_c (by decide) (by decide) hi) (fun _ => ?_) | refine Fr_mup (fun _ hi => PC_n (by decide) hi) (fun _ => ?_) | refine Fr_mset (fun _ hi => PC_s (by assumption) (by decide) hi) (fun _ => ?_) | refine Fr_mset (fun _ hi => PC_s (by decide) (by decide) hi) (fun _ => ?_) | refine Fr_mset (fun _ hi => PC_c (by assumption) (by decide) hi) (fun _ => ?_) | refine Fr_mset (fun _ hi => PC_c (by decide) (by decide) hi) (fun _ => ?_) | refine Fr_mset (fun _ hi => PC_n (by decide) hi) (fun _ => ?_) | refine Fr_bnd (fun _ => ?_) | refine Fr_bd ?_ (fun _ _ => ?_) | apply frd_X0_has | assumption | decide | intro _)

theorem frd_X0_inState_B25 (q0 : Nat) (kx1 : Int32 → Mem → Ans) (kb : Int32 → Int32 → Mem → Ans) (a1 : Int32) (a2 : Int32) (a3 : Int32) (hq0 : q0 < 7) (hx1 : ∀ (b2 : Int32) (M0 : Mem), Fr PC M0 (kx1 b2 M0)) (hb : ∀ (b2 : Int32) (b3 : Int32) (M0 : Mem), Fr PC M0 (kb b2 b3 M0)) (M : Mem) : Fr PC M (d_X0_inState_B25 q0 kx1 kb a1 a2 a3 M) := by
  unfold d_X0_inState_B25
  with_reducible repeat' (first | exact Fr_some | exact hx1 _ _ | exact hb _ _ _ | refine Fr_ite ?_ ?_ | refine Fr_chk ?_ | refine Fr_nar ?_ | refine Fr_stk (fun _ _ => ?_) | refine Fr_mup (fun _ hi => PC_s (by assumption) (by decide) hi) (fun _ => ?_) | refine Fr_mup (fun _ hi => PC_s (by decide) (by decide) hi) (fun _ => ?_) | refine Fr_mup (fun _ hi => PC_c (by assumption) (by decide) hi) (fun _ => ?_) | refine Fr_mup (fun _ hi => PC_c (by decide) (by decide) hi) (fun _ => ?_) | refine Fr_mup (fun _ hi => PC_n (by decide) hi) (fun _ => ?_) | refine Fr_mset (fun _ hi => PC_s (by assumption) (by decide) hi) (fun _ => ?_) | refine Fr_mset (fun _ hi => PC_s (by decide) (by decide) hi) (fun _ => ?_) | refine Fr_mset (fun _ hi => PC_c (by assumption) (by decide) hi) (fun _ => ?_) | refine Fr_mset (fun _ hi => PC_c (by decide) (by decide) hi) (fun _ => ?_) | refine Fr_mset (fun _ hi => PC_n (by decide) hi) (fun _ => ?_) | refine Fr_bnd (fun _ => ?_) | refine Fr_bd ?_ (fun _ _ => ?_) | assumption | decide | intro _)

theorem frd_X0_inState_L4_body (q0 : Nat) (a1 : Int32) (kx1 : Int32 → Mem → Ans) (kb : Int32 → Int32 → Mem → Ans) (a2 : Int32) (a3 : Int32) (hq0 : q0 < 7) (hx1 : ∀ (b2 : Int32) (M0 : Mem), Fr PC M0 (kx1 b2 M0)) (hb : ∀ (b2 : Int32) (b3 : Int32) (M0 : Mem), Fr PC M0 (kb b2 b3 M0)) (M : Mem) : Fr PC M (d_X0_inState_L4_body q0 a1 kx1 kb a2 a3 M) := by
  unfold d_X0_inState_L4_body
  with_reducible repeat' (first | exact Fr_some | exact hx1 _ _ | exact hb _ _ _ | refine Fr_ite ?_ ?_ | refine Fr_chk ?_ | refine Fr_nar ?_ | refine Fr_stk (fun _ _ => ?_) | refine Fr_mup (fun _ hi => PC_s (by assumption) (by decide) hi) (fun _ => ?_) | refine Fr_mup (fun _ hi => PC_s (by decide) (by decide) hi) (fun _ => ?_) | refine Fr_mup (fun _ hi => PC_c (by assumption) (by decide) hi) (fun _ => ?_) | refine Fr_mup (fun _ hi => PC_c (by decide) (by decide) hi) (fun _ => ?_) | refine Fr_mup (fun _ hi => PC_n (by decide) hi) (fun _ => ?_) | refine Fr_mset (fun _ hi => PC_s (by assumption) (by decide) hi) (fun _ => ?_) | refine Fr_mset (fun _ hi => PC_s (by decide) (by decide) hi) (fun _ => ?_) | refine Fr_mset (fun _ hi => PC_c (by assumption) (by decide) hi) (fun _ => ?_) | refine Fr_mset (fun _ hi => PC_c (by decide) (by decide) hi) (fun _ => ?_) | refine Fr_mset (fun _ hi => PC_n (by decide) hi) (fun _ => ?_) | refine Fr_bnd (fun _ => ?_) | refine Fr_bd ?_ (fun _ _ => ?_) | apply frd_X0_inState_B25 | assumption | decide | intro _)

theorem frd_X0_inState_L4 (q0 : Nat) (a1 : Int32) (kx1 : Int32 → Mem → Ans) (hq0 : q0 < 7) (hx1 : ∀ (b2 : Int32) (M0 : Mem), Fr PC M0 (kx1 b2 M0)) : ∀ (n : Nat) (a2 : Int32) (a3 : Int32) (M : Mem), Fr PC M (d_X0_inState_L4 q0 a1 kx1 n a2 a3 M) := by
  intro n
  induction n with
  | zero => intro a2 a3 M; exact Fr_none
  | succ n ih => intro a2 a3 M; exact frd_X0_inState_L4_body q0 a1 kx1 _ a2 a3 hq0 hx1 ih M

theorem frd_X0_inState (q0 : Nat) (p1 : Int32) (hq0 : q0 < 7) (M : Mem) : Fr PC M (d_X0_inState q0 p1 M) := by
  unfold d_X0_inState
  with_reducible repeat' (first | exact Fr_some | refine Fr_ite ?_ ?_ | refine Fr_chk ?_ | refine Fr_nar ?_ | refine Fr_stk (fun _ _ => ?_) | refine Fr_mup (fun _ hi => PC_s (by assumption) (by decide) hi) (fun _ => ?_) | refine Fr_mup (fun _ hi => PC_s (by decide) (by decide) hi) (fun _ => ?_) | refine Fr_mup (fun _ hi => PC_c (by assumption) (by decide) hi) (fun _ => ?_) | refine Fr_mup (fun _ hi => PC_c (by decide) (by decide) hi) (fun _ => ?_) | refine Fr_mup (fun _ hi => PC_n (by decide) hi) (fun _ => ?_) | refine Fr_mset (fun _ hi => PC_s (by assumption) (by decide) hi) (fun _ => ?_) | refine Fr_mset (fun _ hi => PC_s (by decide) (by decide) hi) (fun _ => ?_) | refine Fr_mset (fun _ hi => PC_c (by assumption) (by decide) hi) (fun _ => ?_) | refine Fr_mset (fun _ hi => PC_c (by decide) (by decide) hi) (fun _ => ?_) | refine Fr_mset (fun _ hi => PC_n (by decide) hi) (fun _ => ?_) | refine Fr_bnd (fun _ => ?_) | refine Fr_bd ?_ (fun _ _ => ?_) | apply frd_X0_inState_L4 | assumption | decide | intro _)

theorem frd_X0_ofRobot_B39 (q0 : Nat) (kx1 : Int32 → Mem → Ans) (kb : Int32 → Int32 → Mem → Ans) (a1 : Int32) (a2 : Int32) (a3 : Int32) (a4 : Int32) (hq0 : q0 < 7) (hx1 : ∀ (b3 : Int32) (M0 : Mem), Fr PC M0 (kx1 b3 M0)) (hb : ∀ (b3 : Int32) (b4 : Int32) (M0 : Mem), Fr PC M0 (kb b3 b4 M0)) (M : Mem) : Fr PC M (d_X0_ofRobot_B39 q0 kx1 kb a1 a2 a3 a4 M) := by
  unfold d_X0_ofRobot_B39
  with_reducible repeat' (first | exact Fr_some | exact hx1 _ _ | exact hb _ _ _ | refine Fr_ite ?_ ?_ | refine Fr_chk ?_ | refine Fr_nar ?_ | refine Fr_stk (fun _ _ => ?_) | refine Fr_mup (fun _ hi => PC_s (by assumption) (by decide) hi) (fun _ => ?_) | refine Fr_mup (fun _ hi => PC_s (by decide) (by decide) hi) (fun _ => ?_) | refine Fr_mup (fun _ hi => PC_c (by assumption) (by decide) hi) (fun _ => ?_) | refine Fr_mup (fun _ hi => PC_c (by decide) (by decide) hi) (fun _ => ?_) | refine Fr_mup (fun _ hi => PC_n (by decide) hi) (fun _ => ?_) | refine Fr_mset (fun _ hi => PC_s (by assumption) (by decide) hi) (fun _ => ?_) | refine Fr_mset (fun _ hi => PC_s (by decide) (by decide) hi) (fun _ => ?_) | refine Fr_mset (fun _ hi => PC_c (by assumption) (by decide) hi) (fun _ => ?_) | refine Fr_mset (fun _ hi => PC_c (by decide) (by decide) hi) (fun _ => ?_) | refine Fr_mset (fun _ hi => PC_n (by decide) hi) (fun _ => ?_) | refine Fr_bnd (fun _ => ?_) | refine Fr_bd ?_ (fun _ _ => ?_) | assumption | decide | intro _)

theorem frd_X0_ofRobot_L5_body (q0 : Nat) (a1 : Int32) (a2 : Int32) (kx1 : Int32 → Mem → Ans) (kb : Int32 → Int32 → Mem → Ans) (a3 : Int32) (a4 : Int32) (hq0 : q0 < 7) (hx1 : ∀ (b3 : Int32) (M0 : Mem), Fr PC M0 (kx1 b3 M0)) (hb : ∀ (b3 : Int32) (b4 : Int32) (M0 : Mem), Fr PC M0 (kb b3 b4 M0)) (M : Mem) : Fr PC M (d_X0_ofRobot_L5_body q0 a1 a2 kx1 kb a3 a4 M) := by
  unfold d_X0_ofRobot_L5_body
  with_reducible repeat' (first | exact Fr_some | exact hx1 _ _ | exact hb _ _ _ | refine Fr_ite ?_ ?_ | refine Fr_chk ?_ | refine Fr_nar ?_ | refine Fr_stk (fun _ _ => ?_) | refine Fr_mup (fun _ hi => PC_s (by assumption) (by decide) hi) (fun _ => ?_) | refine Fr_mup (fun _ hi => PC_s (by decide) (by decide) hi) (fun _ => ?_) | refine Fr_mup (fun _ hi => PC_c (by assumption) (by decide) hi) (fun _ => ?_) | refine Fr_mup (fun _ hi => PC_c (by decide) (by decide) hi) (fun _ => ?_) | refine Fr_mup (fun _ hi => PC_n (by decide) hi) (fun _ => ?_) | refine Fr_mset (fun _ hi => PC_s (by assumption) (by decide) hi) (fun _ => ?_) | refine Fr_mset (fun _ hi => PC_s (by decide) (by decide) hi) (fun _ => ?_) | refine Fr_mset (fun _ hi => PC_c (by assumption) (by decide) hi) (fun _ => ?_) | refine Fr_mset (fun _ hi => PC_c (by decide) (by decide) hi) (fun _ => ?_) | refine Fr_mset (fun _ hi => PC_n (by decide) hi) (fun _ => ?_) | refine Fr_bnd (fun _ => ?_) | refine Fr_bd ?_ (fun _ _ => ?_) | apply frd_X0_ofRobot_B39 | assumption | decide | intro _)

theorem frd_X0_ofRobot_L5 (q0 : Nat) (a1 : Int32) (a2 : Int32) (kx1 : Int32 → Mem → Ans) (hq0 : q0 < 7) (hx1 : ∀ (b3 : Int32) (M0 : Mem), Fr PC M0 (kx1 b3 M0)) : ∀ (n : Nat) (a3 : Int32) (a4 : Int32) (M : Mem), Fr PC M (d_X0_ofRobot_L5 q0 a1 a2 kx1 n a3 a4 M) := by
  intro n
  induction n with
  | zero => intro a3 a4 M; exact Fr_none
  | succ n ih => intro a3 a4 M; exact frd_X0_ofRobot_L5_body q0 a1 a2 kx1 _ a3 a4 hq0 hx1 ih M

theorem frd_X0_ofRobot (q0 : Nat) (p1 : Int32) (p2 : Int32) (hq0 : q0 < 7) (M : Mem) : Fr PC M (d_X0_ofRobot q0 p1 p2 M) := by
  unfold d_X0_ofRobot
  with_reducible repeat' (first | exact Fr_some | refine Fr_ite ?_ ?_ | refine Fr_chk ?_ | refine Fr_nar ?_ | refine Fr_stk (fun _ _ => ?_) | refine Fr_mup (fun _ hi => PC_s (by assumption) (by decide) hi) (fun _ => ?_) | refine Fr_mup (fun _ hi => PC_s (by decide) (by decide) hi) (fun _ => ?_) | refine Fr_mup (fun _ hi => PC_c (by assumption) (by decide) hi) (fun _ => ?_) | refine Fr_mup (fun _ hi => PC_c (by decide) (by decide) hi) (fun _ => ?_) | refine Fr_mup (fun _ hi => PC_n (by decide) hi) (fun _ => ?_) | refine Fr_mset (fun _ hi => PC_s (by assumption) (by decide) hi) (fun _ => ?_) | refine Fr_mset (fun _ hi => PC_s (by decide) (by decide) hi) (fun _ => ?_) | refine Fr_mset (fun _ hi => PC_c (by assumption) (by decide) hi) (fun _ => ?_) | refine Fr_mset (fun _ hi => PC_c (by decide) (by decide) hi) (fun _ => ?_) | refine Fr_mset (fun _ hi => PC_n (by decide) hi) (fun _ => ?_) | refine Fr_bnd (fun _ => ?_) | refine Fr_bd ?_ (fun _ _ => ?_) | apply frd_X0_ofRobot_L5 | assumption | decide | intro _)

theorem frd_X0_doneOfRecipe_B35 (q0 : Nat) (kx1 : Int32 → Mem → Ans) (kb : Int32 → Int32 → Mem → Ans) (a1 : Int32) (a2 : Int32) (a3 : Int32) (hq0 : q0 < 7) (hx1 : ∀ (b2 : Int32) (M0 : Mem), Fr PC M0 (kx1 b2 M0)) (hb : ∀ (b2 : Int32) (b3 : Int32) (M0 : Mem), Fr PC M0 (kb b2 b3 M0)) (M : Mem) : Fr PC M (d_X0_doneOfRecipe_B35 q0 kx1 kb a1 a2 a3 M) := by
  unfold d_X0_doneOfRecipe_B35
  with_reducible repeat' (first | exact Fr_some | exact hx1 _ _ | exact hb _ _ _ | refine Fr_ite ?_ ?_ | refine Fr_chk ?_ | refine Fr_nar ?_ | refine Fr_stk (fun _ _ => ?_) | refine Fr_mup (fun _ hi => PC_s (by assumption) (by decide) hi) (fun _ => ?_) | refine Fr_mup (fun _ hi => PC_s (by decide) (by decide) hi) (fun _ => ?_) | refine Fr_mup (fun _ hi => PC_c (by assumption) (by decide) hi) (fun _ => ?_) | refine Fr_mup (fun _ hi => PC_c (by decide) (by decide) hi) (fun _ => ?_) | refine Fr_mup (fun _ hi => PC_n (by decide) hi) (fun _ => ?_) | refine Fr_mset (fun _ hi => PC_s (by assumption) (by decide) hi) (fun _ => ?_) | refine Fr_mset (fun _ hi => PC_s (by decide) (by decide) hi) (fun _ => ?_) | refine Fr_mset (fun _ hi => PC_c (by assumption) (by decide) hi) (fun _ => ?_) | refine Fr_mset (fun _ hi => PC_c (by decide) (by decide) hi) (fun _ => ?_) | refine Fr_mset (fun _ hi => PC_n (by decide) hi) (fun _ => ?_) | refine Fr_bnd (fun _ => ?_) | refine Fr_bd ?_ (fun _ _ => ?_) | assumption | decide | intro _)

theorem frd_X0_doneOfRecipe_L4_body (q0 : Nat) (a1 : Int32) (kx1 : Int32 → Mem → Ans) (kb : Int32 → Int32 → Mem → Ans) (a2 : Int32) (a3 : Int32) (hq0 : q0 < 7) (hx1 : ∀ (b2 : Int32) (M0 : Mem), Fr PC M0 (kx1 b2 M0)) (hb : ∀ (b2 : Int32) (b3 : Int32) (M0 : Mem), Fr PC M0 (kb b2 b3 M0)) (M : Mem) : Fr PC M (d_X0_doneOfRecipe_L4_body q0 a1 kx1 kb a2 a3 M) := by
  unfold d_X0_doneOfRecipe_L4_body
  with_reducible repeat' (first | exact Fr_some | exact hx1 _ _ | exact hb _ _ _ | refine Fr_ite ?_ ?_ | refine Fr_chk ?_ | refine Fr_nar ?_ | refine Fr_stk (fun _ _ => ?_) | refine Fr_mup (fun _ hi => PC_s (by assumption) (by decide) hi) (fun _ => ?_) | refine Fr_mup (fun _ hi => PC_s (by decide) (by decide) hi) (fun _ => ?_) | refine Fr_mup (fun _ hi => PC_c (by assumption) (by decide) hi) (fun _ => ?_) | refine Fr_mup (fun _ hi => PC_c (by decide) (by decide) hi) (fun _ => ?_) | refine Fr_mup (fun _ hi => PC_n (by decide) hi) (fun _ => ?_) | refine Fr_mset (fun _ hi => PC_s (by assumption) (by decide) hi) (fun _ => ?_) | refine Fr_mset (fun _ hi => PC_s (by decide) (by decide) hi) (fun _ => ?_) | refine Fr_mset (fun _ hi => PC_c (by assumption) (by decide) hi) (fun _ => ?_) | refine Fr_mset (fun _ hi => PC_c (by decide) (by decide) hi) (fun _ => ?_) | refine Fr_mset (fun _ hi => PC_n (by decide) hi) (fun _ => ?_) | refine Fr_bnd (fun _ => ?_) | refine Fr_bd ?_ (fun _ _ => ?_) | apply frd_X0_doneOfRecipe_B35 | assumption | decide | intro _)

theorem frd_X0_doneOfRecipe_L4 (q0 : Nat) (a1 : Int32) (kx1 : Int32 → Mem → Ans) (hq0 : q0 < 7) (hx1 : ∀ (b2 : Int32) (M0 : Mem), Fr PC M0 (kx1 b2 M0)) : ∀ (n : Nat) (a2 : Int32) (a3 : Int32) (M : Mem), Fr PC M (d_X0_doneOfRecipe_L4 q0 a1 kx1 n a2 a3 M) := by
  intro n
  induction n with
  | zero => intro a2 a3 M; exact Fr_none
  | succ n ih => intro a2 a3 M; exact frd_X0_doneOfRecipe_L4_body q0 a1 kx1 _ a2 a3 hq0 hx1 ih M

theorem frd_X0_doneOfRecipe (q0 : Nat) (p1 : Int32) (hq0 : q0 < 7) (M : Mem) : Fr PC M (d_X0_doneOfRecipe q0 p1 M) := by
  unfold d_X0_doneOfRecipe
  with_reducible repeat' (first | exact Fr_some | refine Fr_ite ?_ ?_ | refine Fr_chk ?_ | refine Fr_nar ?_ | refine Fr_stk (fun _ _ => ?_) | refine Fr_mup (fun _ hi => PC_s (by assumption) (by decide) hi) (fun _ => ?_) | refine Fr_mup (fun _ hi => PC_s (by decide) (by decide) hi) (fun _ => ?_) | refine Fr_mup (fun _ hi => PC_c (by assumption) (by decide) hi) (fun _ => ?_) | refine Fr_mup (fun _ hi => PC_c (by decide) (by decide) hi) (fun _ => ?_) | refine Fr_mup (fun _ hi => PC_n (by decide) hi) (fun _ => ?_) | refine Fr_mset (fun _ hi => PC_s (by assumption) (by decide) hi) (fun _ => ?_) | refine Fr_mset (fun _ hi => PC_s (by decide) (by decide) hi) (fun _ => ?_) | refine Fr_mset (fun _ hi => PC_c (by assumption) (by decide) hi) (fun _ => ?_) | refine Fr_mset (fun _ hi => PC_c (by decide) (by decide) hi) (fun _ => ?_) | refine Fr_mset (fun _ hi => PC_n (by decide) hi) (fun _ => ?_) | refine Fr_bnd (fun _ => ?_) | refine Fr_bd ?_ (fun _ _ => ?_) | apply frd_X0_doneOfRecipe_L4 | assumption | decide | intro _)

theorem frd_X0_copyFrom (q0 : Nat) (q1 : Nat) (hq0 : q0 < 7) (hq1 : q1 < 7) (M : Mem) : Fr PC M (d_X0_copyFrom q0 q1 M) := by
  unfold d_X0_copyFrom
  with_reducible repeat' (first | exact Fr_some | refine Fr_ite ?_ ?_ | refine Fr_chk ?_ | refine Fr_nar ?_ | refine Fr_stk (fun _ _ => ?_) | refine Fr_mup (fun _ hi => PC_s (by assumption) (by decide) hi) (fun _ => ?_) | refine Fr_mup (fun _ hi => PC_s (by decide) (by decide) hi) (fun _ => ?_) | refine Fr_mup (fun _ hi => PC_c (by assumption) (by decide) hi) (fun _ => ?_) | refine Fr_mup (fun _ hi => PC_c (by decide) (by decide) hi) (fun _ => ?_) | refine Fr_mup (fun _ hi => PC_n (by decide) hi) (fun _ => ?_) | refine Fr_mset (fun _ hi => PC_s (by assumption) (by decide) hi) (fun _ => ?_) | refine Fr_mset (fun _ hi => PC_s (by decide) (by decide) hi) (fun _ => ?_) | refine Fr_mset (fun _ hi => PC_c (by assumption) (by decide) hi) (fun _ => ?_) | refine Fr_mset (fun _ hi => PC_c (by decide) (by decide) hi) (fun _ => ?_) | refine Fr_mset (fun _ hi => PC_n (by decide) hi) (fun _ => ?_) | refine Fr_bnd (fun _ => ?_) | refine Fr_bd ?_ (fun _ _ => ?_) | assumption | decide | intro _)

theorem frd_X4_has (q0 : Nat) (p1 : Int32) (hq0 : q0 < 7) (M : Mem) : Fr PC M (d_X4_has q0 p1 M) := by
  unfold d_X4_has
  with_reducible repeat' (first | exact Fr_some | refine Fr_ite ?_ ?_ | refine Fr_chk ?_ | refine Fr_nar ?_ | refine Fr_stk (fun _ _ => ?_) | refine Fr_mup (fun _ hi => PC_s (by assumption) (by decide) hi) (fun _ => ?_) | refine Fr_mup (fun _ hi => PC_s (by decide) (by decide) hi) (fun _ => ?_) | refine Fr_mup (fun _ hi => PC_c (by assumption) (by decide) hi) (fun _ => ?_) | refine Fr_mup (fun _ hi => PC_c (by decide) (by decide) hi) (fun _ => ?_) | refine Fr_mup (fun _ hi => PC_n (by decide) hi) (fun _ => ?_) | refine Fr_mset (fun _ hi => PC_s (by assumption) (by decide) hi) (fun _ => ?_) | refine Fr_mset (fun _ hi => PC_s (by decide) (by decide) hi) (fun _ => ?_) | refine Fr_mset (fun _ hi => PC_c (by assumption) (by decide) hi) (fun _ => ?_) | refine Fr_mset (fun _ hi => PC_c (by decide) (by decide) hi) (fun _ => ?_) | refine Fr_mset (fun _ hi => PC_n (by decide) hi) (fun _ => ?_) | refine Fr_bnd (fun _ => ?_) | refine Fr_bd ?_ (fun _ _ => ?_) | assumption | decide | intro _)

theorem frd_X1_addRow_B94 (q0 : Nat) (q1 : Nat) (a3 : Int32) (a4 : Int32) (s0 : Int32) (s1 : Int32) (hq0 : q0 < 2) (hq1 : q1 < 7) (M : Mem) : Fr PC M (d_X1_addRow_B94 q0 q1 a3 a4 s0 s1 M) := by
  unfold d_X1_addRow_B94
  with_reducible repeat' (first | exact Fr_some | refine Fr_ite ?_ ?_ | refine Fr_chk ?_ | refine Fr_nar ?_ | refine Fr_stk (fun _ _ => ?_) | refine Fr_mup (fun _ hi => PC_s (by assumption) (by decide) hi) (fun _ => ?_) | refine Fr_mup (fun _ hi => PC_s (by decide) (by decide) hi) (fun _ => ?_) | refine Fr_mup (fun _ hi => PC_c (by assumption) (by decide) hi) (fun _ => ?_) | refine Fr_mup (fun _ hi => PC_c (by decide) (by decide) hi) (fun _ => ?_) | refine Fr_mup (fun _ hi => PC_n (by decide) hi) (fun _ => ?_) | refine Fr_mset (fun _ hi => PC_s (by assumption) (by decide) hi) (fun _ => ?_) | refine Fr_mset (fun _ hi => PC_s (by decide) (by decide) hi) (fun _ => ?_) | refine Fr_mset (fun _ hi => PC_c (by assumption) (by decide) hi) (fun _ => ?_) | refine Fr_mset (fun _ hi => PC_c (by decide) (by decide) hi) (fun _ => ?_) | refine Fr_mset (fun _ hi => PC_n (by decide) hi) (fun _ => ?_) | refine Fr_bnd (fun _ => ?_) | refine Fr_bd ?_ (fun _ _ => ?_) | assumption | decide | intro _)

theorem frd_X1_addRow_B67 (q0 : Nat) (q1 : Nat) (a2 : Int32) (a3 : Int32) (a4 : Int32) (a5 : Int32) (s0 : Int32) (s1 : Int32) (hq0 : q0 < 2) (hq1 : q1 < 7) (M : Mem) : Fr PC M (d_X1_addRow_B67 q0 q1 a2 a3 a4 a5 s0 s1 M) := by
  unfold d_X1_addRow_B67
  with_reducible repeat' (first | exact Fr_some | refine Fr_ite ?_ ?_ | refine Fr_chk ?_ | refine Fr_nar ?_ | refine Fr_stk (fun _ _ => ?_) | refine Fr_mup (fun _ hi => PC_s (by assumption) (by decide) hi) (fun _ => ?_) | refine Fr_mup (fun _ hi => PC_s (by decide) (by decide) hi) (fun _ => ?_) | refine Fr_mup (fun _ hi => PC_c (by assumption) (by decide) hi) (fun _ => ?_) | refine Fr_mup (fun _ hi => PC_c (by decide) (by decide) hi) (fun _ => ?_) | refine Fr_mup (fun _ hi => PC_n (by decide) hi) (fun _ => ?_) | refine Fr_mset (fun _ hi => PC_s (by assumption) (by decide) hi) (fun _ => ?_) | refine Fr_mset (fun _ hi => PC_s (by decide) (by decide) hi) (fun _ => ?_) | refine Fr_mset (fun _ hi => PC_c (by assumption) (by decide) hi) (fun _ => ?_) | refine Fr_mset (fun _ hi => PC_c (by decide) (by decide) hi) (fun _ => ?_) | refine Fr_mset (fun _ hi => PC_n (by decide) hi) (fun _ => ?_) | refine Fr_bnd (fun _ => ?_) | refine Fr_bd ?_ (fun _ _ => ?_) | apply frd_X1_addRow_B94 | assumption | decide | intro _)

theorem frd_X1_addRow (q0 : Nat) (q1 : Nat) (p2 : Int32) (p3 : Int32) (p4 : Int32) (hq0 : q0 < 2) (hq1 : q1 < 7) (M : Mem) : Fr PC M (d_X1_addRow q0 q1 p2 p3 p4 M) := by
  unfold d_X1_addRow
  with_reducible repeat' (first | exact Fr_some | refine Fr_ite ?_ ?_ | refine Fr_chk ?_ | refine Fr_nar ?_ | refine Fr_stk (fun _ _ => ?_) | refine Fr_mup (fun _ hi => PC_s (by assumption) (by decide) hi) (fun _ => ?_) | refine Fr_mup (fun _ hi => PC_s (by decide) (by decide) hi) (fun _ => ?_) | refine Fr_mup (fun _ hi => PC_c (by assumption) (by decide) hi) (fun _ => ?_) | refine Fr_mup (fun _ hi => PC_c (by decide) (by decide) hi) (fun _ => ?_) | refine Fr_mup (fun _ hi => PC_n (by decide) hi) (fun _ => ?_) | refine Fr_mset (fun _ hi => PC_s (by assumption) (by decide) hi) (fun _ => ?_) | refine Fr_mset (fun _ hi => PC_s (by decide) (by decide) hi) (fun _ => ?_) | refine Fr_mset (fun _ hi => PC_c (by assumption) (by decide) hi) (fun _ => ?_) | refine Fr_mset (fun _ hi => PC_c (by decide) (by decide) hi) (fun _ => ?_) | refine Fr_mset (fun _ hi => PC_n (by decide) hi) (fun _ => ?_) | refine Fr_bnd (fun _ => ?_) | refine Fr_bd ?_ (fun _ _ => ?_) | apply frd_X4_has | apply frd_X0_has | apply frd_X1_addRow_B67 | assumption | decide | intro _)

theorem frd_X1_beginWith_B132 (q0 : Nat) (q1 : Nat) (kx1 : Mem → Ans) (kb : Int32 → Mem → Ans) (a2 : Int32) (a3 : Int32) (a4 : Int32) (a5 : Int32) (hq0 : q0 < 2) (hq1 : q1 < 7) (hx1 : ∀ (M0 : Mem), Fr PC M0 (kx1 M0)) (hb : ∀ (b5 : Int32) (M0 : Mem), Fr PC M0 (kb b5 M0)) (M : Mem) : Fr PC M (d_X1_beginWith_B132 q0 q1 kx1 kb a2 a3 a4 a5 M) := by
  unfold d_X1_beginWith_B132
  with_reducible repeat' (first | exact Fr_some | exact hx1 _ | exact hb _ _ | refine Fr_ite ?_ ?_ | refine Fr_chk ?_ | refine Fr_nar ?_ | refine Fr_stk (fun _ _ => ?_) | refine Fr_mup (fun _ hi => PC_s (by assumption) (by decide) hi) (fun _ => ?_) | refine Fr_mup (fun _ hi => PC_s (by decide) (by decide) hi) (fun _ => ?_) | refine Fr_mup (fun _ hi => PC_c (by assumption) (by decide) hi) (fun _ => ?_) | refine Fr_mup (fun _ hi => PC_c (by decide) (by decide) hi) (fun _ => ?_) | refine Fr_mup (fun _ hi => PC_n (by decide) hi) (fun _ => ?_) | refine Fr_mset (fun _ hi => PC_s (by assumption) (by decide) hi) (fun _ => ?_) | refine Fr_mset (fun _ hi => PC_s (by decide) (by decide) hi) (fun _ => ?_) | refine Fr_mset (fun _ hi => PC_c (by assumption) (by decide) hi) (fun _ => ?_) | refine Fr_mset (fun _ hi => PC_c (by decide) (by decide) hi) (fun _ => ?_) | refine Fr_mset (fun _ hi => PC_n (by decide) hi) (fun _ => ?_) | refine Fr_bnd (fun _ => ?_) | refine Fr_bd ?_ (fun _ _ => ?_) | assumption | decide | intro _)

theorem frd_X1_beginWith_B111 (q0 : Nat) (q1 : Nat) (kx1 : Mem → Ans) (kb : Int32 → Mem → Ans) (a2 : Int32) (a3 : Int32) (a4 : Int32) (a5 : Int32) (hq0 : q0 < 2) (hq1 : q1 < 7) (hx1 : ∀ (M0 : Mem), Fr PC M0 (kx1 M0)) (hb : ∀ (b5 : Int32) (M0 : Mem), Fr PC M0 (kb b5 M0)) (M : Mem) : Fr PC M (d_X1_beginWith_B111 q0 q1 kx1 kb a2 a3 a4 a5 M) := by
  unfold d_X1_beginWith_B111
  with_reducible repeat' (first | exact Fr_some | exact hx1 _ | exact hb _ _ | refine Fr_ite ?_ ?_ | refine Fr_chk ?_ | refine Fr_nar ?_ | refine Fr_stk (fun _ _ => ?_) | refine Fr_mup (fun _ hi => PC_s (by assumption) (by decide) hi) (fun _ => ?_) | refine Fr_mup (fun _ hi => PC_s (by decide) (by decide) hi) (fun _ => ?_) | refine Fr_mup (fun _ hi => PC_c (by assumption) (by decide) hi) (fun _ => ?_) | refine Fr_mup (fun _ hi => PC_c (by decide) (by decide) hi) (fun _ => ?_) | refine Fr_mup (fun _ hi => PC_n (by decide) hi) (fun _ => ?_) | refine Fr_mset (fun _ hi => PC_s (by assumption) (by decide) hi) (fun _ => ?_) | refine Fr_mset (fun _ hi => PC_s (by decide) (by decide) hi) (fun _ => ?_) | refine Fr_mset (fun _ hi => PC_c (by assumption) (by decide) hi) (fun _ => ?_) | refine Fr_mset (fun _ hi => PC_c (by decide) (by decide) hi) (fun _ => ?_) | refine Fr_mset (fun _ hi => PC_n (by decide) hi) (fun _ => ?_) | refine Fr_bnd (fun _ => ?_) | refine Fr_bd ?_ (fun _ _ => ?_) | apply frd_X1_beginWith_B132 | apply frd_X1_addRow | assumption | decide | intro _)

theorem frd_X1_beginWith_L51_body (q0 : Nat) (q1 : Nat) (a2 : Int32) (a3 : Int32) (a4 : Int32) (kx1 : Mem → Ans) (kb : Int32 → Mem → Ans) (a5 : Int32) (hq0 : q0 < 2) (hq1 : q1 < 7) (hx1 : ∀ (M0 : Mem), Fr PC M0 (kx1 M0)) (hb : ∀ (b5 : Int32) (M0 : Mem), Fr PC M0 (kb b5 M0)) (M : Mem) : Fr PC M (d_X1_beginWith_L51_body q0 q1 a2 a3 a4 kx1 kb a5 M) := by
  unfold d_X1_beginWith_L51_body
  with_reducible repeat' (first | exact Fr_some | exact hx1 _ | exact hb _ _ | refine Fr_ite ?_ ?_ | refine Fr_chk ?_ | refine Fr_nar ?_ | refine Fr_stk (fun _ _ => ?_) | refine Fr_mup (fun _ hi => PC_s (by assumption) (by decide) hi) (fun _ => ?_) | refine Fr_mup (fun _ hi => PC_s (by decide) (by decide) hi) (fun _ => ?_) | refine Fr_mup (fun _ hi => PC_c (by assumption) (by decide) hi) (fun _ => ?_) | refine Fr_mup (fun _ hi => PC_c (by decide) (by decide) hi) (fun _ => ?_) | refine Fr_mup (fun _ hi => PC_n (by decide) hi) (fun _ => ?_) | refine Fr_mset (fun _ hi => PC_s (by assumption) (by decide) hi) (fun _ => ?_) | refine Fr_mset (fun _ hi => PC_s (by decide) (by decide) hi) (fun _ => ?_) | refine Fr_mset (fun _ hi => PC_c (by assumption) (by decide) hi) (fun _ => ?_) | refine Fr_mset (fun _ hi => PC_c (by decide) (by decide) hi) (fun _ => ?_) | refine Fr_mset (fun _ hi => PC_n (by decide) hi) (fun _ => ?_) | refine Fr_bnd (fun _ => ?_) | refine Fr_bd ?_ (fun _ _ => ?_) | apply frd_X1_beginWith_B111 | apply frd_X0_isOpen | apply frd_X1_addRow | apply frd_X1_beginWith_B132 | assumption | decide | intro _)

theorem frd_X1_beginWith_L51 (q0 : Nat) (q1 : Nat) (a2 : Int32) (a3 : Int32) (a4 : Int32) (kx1 : Mem → Ans) (hq0 : q0 < 2) (hq1 : q1 < 7) (hx1 : ∀ (M0 : Mem), Fr PC M0 (kx1 M0)) : ∀ (n : Nat) (a5 : Int32) (M : Mem), Fr PC M (d_X1_beginWith_L51 q0 q1 a2 a3 a4 kx1 n a5 M) := by
  intro n
  induction n with
  | zero => intro a5 M; exact Fr_none
  | succ n ih => intro a5 M; exact frd_X1_beginWith_L51_body q0 q1 a2 a3 a4 kx1 _ a5 hq0 hq1 hx1 ih M

theorem frd_X1_beginWith_B164 (q0 : Nat) (q1 : Nat) (hq0 : q0 < 2) (hq1 : q1 < 7) (M : Mem) : Fr PC M (d_X1_beginWith_B164 q0 q1 M) := by
  unfold d_X1_beginWith_B164
  with_reducible repeat' (first | exact Fr_some | refine Fr_ite ?_ ?_ | refine Fr_chk ?_ | refine Fr_nar ?_ | refine Fr_stk (fun _ _ => ?_) | refine Fr_mup (fun _ hi => PC_s (by assumption) (by decide) hi) (fun _ => ?_) | refine Fr_mup (fun _ hi => PC_s (by decide) (by decide) hi) (fun _ => ?_) | refine Fr_mup (fun _ hi => PC_c (by assumption) (by decide) hi) (fun _ => ?_) | refine Fr_mup (fun _ hi => PC_c (by decide) (by decide) hi) (fun _ => ?_) | refine Fr_mup (fun _ hi => PC_n (by decide) hi) (fun _ => ?_) | refine Fr_mset (fun _ hi => PC_s (by assumption) (by decide) hi) (fun _ => ?_) | refine Fr_mset (fun _ hi => PC_s (by decide) (by decide) hi) (fun _ => ?_) | refine Fr_mset (fun _ hi => PC_c (by assumption) (by decide) hi) (fun _ => ?_) | refine Fr_mset (fun _ hi => PC_c (by decide) (by decide) hi) (fun _ => ?_) | refine Fr_mset (fun _ hi => PC_n (by decide) hi) (fun _ => ?_) | refine Fr_bnd (fun _ => ?_) | refine Fr_bd ?_ (fun _ _ => ?_) | assumption | decide | intro _)

theorem frd_X1_beginWith (q0 : Nat) (q1 : Nat) (p2 : Int32) (p3 : Int32) (p4 : Int32) (hq0 : q0 < 2) (hq1 : q1 < 7) (M : Mem) : Fr PC M (d_X1_beginWith q0 q1 p2 p3 p4 M) := by
  unfold d_X1_beginWith
  with_reducible repeat' (first | exact Fr_some | refine Fr_ite ?_ ?_ | refine Fr_chk ?_ | refine Fr_nar ?_ | refine Fr_stk (fun _ _ => ?_) | refine Fr_mup (fun _ hi => PC_s (by assumption) (by decide) hi) (fun _ => ?_) | refine Fr_mup (fun _ hi => PC_s (by decide) (by decide) hi) (fun _ => ?_) | refine Fr_mup (fun _ hi => PC_c (by assumption) (by decide) hi) (fun _ => ?_) | refine Fr_mup (fun _ hi => PC_c (by decide) (by decide) hi) (fun _ => ?_) | refine Fr_mup (fun _ hi => PC_n (by decide) hi) (fun _ => ?_) | refine Fr_mset (fun _ hi => PC_s (by assumption) (by decide) hi) (fun _ => ?_) | refine Fr_mset (fun _ hi => PC_s (by decide) (by decide) hi) (fun _ => ?_) | refine Fr_mset (fun _ hi => PC_c (by assumption) (by decide) hi) (fun _ => ?_) | refine Fr_mset (fun _ hi => PC_c (by decide) (by decide) hi) (fun _ => ?_) | refine Fr_mset (fun _ hi => PC_n (by decide) hi) (fun _ => ?_) | refine Fr_bnd (fun _ => ?_) | refine Fr_bd ?_ (fun _ _ => ?_) | apply frd_X1_beginWith_L51 | apply frd_X1_beginWith_B164 | apply frd_X1_addRow | assumption | decide | intro _)

theorem frd_X1_begin (q0 : Nat) (q1 : Nat) (hq0 : q0 < 2) (hq1 : q1 < 7) (M : Mem) : Fr PC M (d_X1_begin q0 q1 M) := by
  unfold d_X1_begin
  with_reducible repeat' (first | exact Fr_some | refine Fr_ite ?_ ?_ | refine Fr_chk ?_ | refine Fr_nar ?_ | refine Fr_stk (fun _ _ => ?_) | refine Fr_mup (fun _ hi => PC_s (by assumption) (by decide) hi) (fun _ => ?_) | refine Fr_mup (fun _ hi => PC_s (by decide) (by decide) hi) (fun _ => ?_) | refine Fr_mup (fun _ hi => PC_c (by assumption) (by decide) hi) (fun _ => ?_) | refine Fr_mup (fun _ hi => PC_c (by decide) (by decide) hi) (fun _ => ?_) | refine Fr_mup (fun _ hi => PC_n (by decide) hi) (fun _ => ?_) | refine Fr_mset (fun _ hi => PC_s (by assumption) (by decide) hi) (fun _ => ?_) | refine Fr_mset (fun _ hi => PC_s (by decide) (by decide) hi) (fun _ => ?_) | refine Fr_mset (fun _ hi => PC_c (by assumption) (by decide) hi) (fun _ => ?_) | refine Fr_mset (fun _ hi => PC_c (by decide) (by decide) hi) (fun _ => ?_) | refine Fr_mset (fun _ hi => PC_n (by decide) hi) (fun _ => ?_) | refine Fr_bnd (fun _ => ?_) | refine Fr_bd ?_ (fun _ _ => ?_) | apply frd_X1_beginWith | assumption | decide | intro _)

theorem frd_X1_drawFor_B100 (q0 : Nat) (a1 : Int32) (s0 : Int32) (hq0 : q0 < 2) (M : Mem) : Fr PC M (d_X1_drawFor_B100 q0 a1 s0 M) := by
  unfold d_X1_drawFor_B100
  with_reducible repeat' (first | exact Fr_some | refine Fr_ite ?_ ?_ | refine Fr_chk ?_ | refine Fr_nar ?_ | refine Fr_stk (fun _ _ => ?_) | refine Fr_mup (fun _ hi => PC_s (by assumption) (by decide) hi) (fun _ => ?_) | refine Fr_mup (fun _ hi => PC_s (by decide) (by decide) hi) (fun _ => ?_) | refine Fr_mup (fun _ hi => PC_c (by assumption) (by decide) hi) (fun _ => ?_) | refine Fr_mup (fun _ hi => PC_c (by decide) (by decide) hi) (fun _ => ?_) | refine Fr_mup (fun _ hi => PC_n (by decide) hi) (fun _ => ?_) | refine Fr_mset (fun _ hi => PC_s (by assumption) (by decide) hi) (fun _ => ?_) | refine Fr_mset (fun _ hi => PC_s (by decide) (by decide) hi) (fun _ => ?_) | refine Fr_mset (fun _ hi => PC_c (by assumption) (by decide) hi) (fun _ => ?_) | refine Fr_mset (fun _ hi => PC_c (by decide) (by decide) hi) (fun _ => ?_) | refine Fr_mset (fun _ hi => PC_n (by decide) hi) (fun _ => ?_) | refine Fr_bnd (fun _ => ?_) | refine Fr_bd ?_ (fun _ _ => ?_) | assumption | decide | intro _)

theorem frd_X1_drawFor_B42 (q0 : Nat) (a1 : Int32) (a2 : Int32) (hq0 : q0 < 2) (M : Mem) : Fr PC M (d_X1_drawFor_B42 q0 a1 a2 M) := by
  unfold d_X1_drawFor_B42
  with_reducible repeat' (first | exact Fr_some | refine Fr_ite ?_ ?_ | refine Fr_chk ?_ | refine Fr_nar ?_ | refine Fr_stk (fun _ _ => ?_) | refine Fr_mup (fun _ hi => PC_s (by assumption) (by decide) hi) (fun _ => ?_) | refine Fr_mup (fun _ hi => PC_s (by decide) (by decide) hi) (fun _ => ?_) | refine Fr_mup (fun _ hi => PC_c (by assumption) (by decide) hi) (fun _ => ?_) | refine Fr_mup (fun _ hi => PC_c (by decide) (by decide) hi) (fun _ => ?_) | refine Fr_mup (fun _ hi => PC_n (by decide) hi) (fun _ => ?_) | refine Fr_mset (fun _ hi => PC_s (by assumption) (by decide) hi) (fun _ => ?_) | refine Fr_mset (fun _ hi => PC_s (by decide) (by decide) hi) (fun _ => ?_) | refine Fr_mset (fun _ hi => PC_c (by assumption) (by decide) hi) (fun _ => ?_) | refine Fr_mset (fun _ hi => PC_c (by decide) (by decide) hi) (fun _ => ?_) | refine Fr_mset (fun _ hi => PC_n (by decide) hi) (fun _ => ?_) | refine Fr_bnd (fun _ => ?_) | refine Fr_bd ?_ (fun _ _ => ?_) | apply frd_X1_drawFor_B100 | assumption | decide | intro _)

theorem frd_X1_drawFor (q0 : Nat) (p1 : Int32) (hq0 : q0 < 2) (M : Mem) : Fr PC M (d_X1_drawFor q0 p1 M) := by
  unfold d_X1_drawFor
  with_reducible repeat' (first | exact Fr_some | refine Fr_ite ?_ ?_ | refine Fr_chk ?_ | refine Fr_nar ?_ | refine Fr_stk (fun _ _ => ?_) | refine Fr_mup (fun _ hi => PC_s (by assumption) (by decide) hi) (fun _ => ?_) | refine Fr_mup (fun _ hi => PC_s (by decide) (by decide) hi) (fun _ => ?_) | refine Fr_mup (fun _ hi => PC_c (by assumption) (by decide) hi) (fun _ => ?_) | refine Fr_mup (fun _ hi => PC_c (by decide) (by decide) hi) (fun _ => ?_) | refine Fr_mup (fun _ hi => PC_n (by decide) hi) (fun _ => ?_) | refine Fr_mset (fun _ hi => PC_s (by assumption) (by decide) hi) (fun _ => ?_) | refine Fr_mset (fun _ hi => PC_s (by decide) (by decide) hi) (fun _ => ?_) | refine Fr_mset (fun _ hi => PC_c (by assumption) (by decide) hi) (fun _ => ?_) | refine Fr_mset (fun _ hi => PC_c (by decide) (by decide) hi) (fun _ => ?_) | refine Fr_mset (fun _ hi => PC_n (by decide) hi) (fun _ => ?_) | refine Fr_bnd (fun _ => ?_) | refine Fr_bd ?_ (fun _ _ => ?_) | apply frd_X1_drawFor_B42 | assumption | decide | intro _)

theorem frd_X1_passTick_B81 (q0 : Nat) (kx1 : Mem → Ans) (kb : Int32 → Mem → Ans) (a1 : Int32) (hq0 : q0 < 2) (hx1 : ∀ (M0 : Mem), Fr PC M0 (kx1 M0)) (hb : ∀ (b1 : Int32) (M0 : Mem), Fr PC M0 (kb b1 M0)) (M : Mem) : Fr PC M (d_X1_passTick_B81 q0 kx1 kb a1 M) := by
  unfold d_X1_passTick_B81
  with_reducible repeat' (first | exact Fr_some | exact hx1 _ | exact hb _ _ | refine Fr_ite ?_ ?_ | refine Fr_chk ?_ | refine Fr_nar ?_ | refine Fr_stk (fun _ _ => ?_) | refine Fr_mup (fun _ hi => PC_s (by assumption) (by decide) hi) (fun _ => ?_) | refine Fr_mup (fun _ hi => PC_s (by decide) (by decide) hi) (fun _ => ?_) | refine Fr_mup (fun _ hi => PC_c (by assumption) (by decide) hi) (fun _ => ?_) | refine Fr_mup (fun _ hi => PC_c (by decide) (by decide) hi) (fun _ => ?_) | refine Fr_mup (fun _ hi => PC_n (by decide) hi) (fun _ => ?_) | refine Fr_mset (fun _ hi => PC_s (by assumption) (by decide) hi) (fun _ => ?_) | refine Fr_mset (fun _ hi => PC_s (by decide) (by decide) hi) (fun _ => ?_) | refine Fr_mset (fun _ hi => PC_c (by assumption) (by decide) hi) (fun _ => ?_) | refine Fr_mset (fun _ hi => PC_c (by decide) (by decide) hi) (fun _ => ?_) | refine Fr_mset (fun _ hi => PC_n (by decide) hi) (fun _ => ?_) | refine Fr_bnd (fun _ => ?_) | refine Fr_bd ?_ (fun _ _ => ?_) | assumption | decide | intro _)

theorem frd_X1_passTick_L32_body (q0 : Nat) (kx1 : Mem → Ans) (kb : Int32 → Mem → Ans) (a1 : Int32) (hq0 : q0 < 2) (hx1 : ∀ (M0 : Mem), Fr PC M0 (kx1 M0)) (hb : ∀ (b1 : Int32) (M0 : Mem), Fr PC M0 (kb b1 M0)) (M : Mem) : Fr PC M (d_X1_passTick_L32_body q0 kx1 kb a1 M) := by
  unfold d_X1_passTick_L32_body
  with_reducible repeat' (first | exact Fr_some | exact hx1 _ | exact hb _ _ | refine Fr_ite ?_ ?_ | refine Fr_chk ?_ | refine Fr_nar ?_ | refine Fr_stk (fun _ _ => ?_) | refine Fr_mup (fun _ hi => PC_s (by assumption) (by decide) hi) (fun _ => ?_) | refine Fr_mup (fun _ hi => PC_s (by decide) (by decide) hi) (fun _ => ?_) | refine Fr_mup (fun _ hi => PC_c (by assumption) (by decide) hi) (fun _ => ?_) | refine Fr_mup (fun _ hi => PC_c (by decide) (by decide) hi) (fun _ => ?_) | refine Fr_mup (fun _ hi => PC_n (by decide) hi) (fun _ => ?_) | refine Fr_mset (fun _ hi => PC_s (by assumption) (by decide) hi) (fun _ => ?_) | refine Fr_mset (fun _ hi => PC_s (by decide) (by decide) hi) (fun _ => ?_) | refine Fr_mset (fun _ hi => PC_c (by assumption) (by decide) hi) (fun _ => ?_) | refine Fr_mset (fun _ hi => PC_c (by decide) (by decide) hi) (fun _ => ?_) | refine Fr_mset (fun _ hi => PC_n (by decide) hi) (fun _ => ?_) | refine Fr_bnd (fun _ => ?_) | refine Fr_bd ?_ (fun _ _ => ?_) | apply frd_X1_passTick_B81 | apply frd_X1_drawFor | assumption | decide | intro _)

theorem frd_X1_passTick_L32 (q0 : Nat) (kx1 : Mem → Ans) (hq0 : q0 < 2) (hx1 : ∀ (M0 : Mem), Fr PC M0 (kx1 M0)) : ∀ (n : Nat) (a1 : Int32) (M : Mem), Fr PC M (d_X1_passTick_L32 q0 kx1 n a1 M) := by
  intro n
  induction n with
  | zero => intro a1 M; exact Fr_none
  | succ n ih => intro a1 M; exact frd_X1_passTick_L32_body q0 kx1 _ a1 hq0 hx1 ih M

theorem frd_X1_passTick (q0 : Nat) (hq0 : q0 < 2) (M : Mem) : Fr PC M (d_X1_passTick q0 M) := by
  unfold d_X1_passTick
  with_reducible repeat' (first | exact Fr_some | refine Fr_ite ?_ ?_ | refine Fr_chk ?_ | refine Fr_nar ?_ | refine Fr_stk (fun _ _ => ?_) | refine Fr_mup (fun _ hi => PC_s (by assumption) (by decide) hi) (fun _ => ?_) | refine Fr_mup (fun _ hi => PC_s (by decide) (by decide) hi) (fun _ => ?_) | refine Fr_mup (fun _ hi => PC_c (by assumption) (by decide) hi) (fun _ => ?_) | refine Fr_mup (fun _ hi => PC_c (by decide) (by decide) hi) (fun _ => ?_) | refine Fr_mup (fun _ hi => PC_n (by decide) hi) (fun _ => ?_) | refine Fr_mset (fun _ hi => PC_s (by assumption) (by decide) hi) (fun _ => ?_) | refine Fr_mset (fun _ hi => PC_s (by decide) (by decide) hi) (fun _ => ?_) | refine Fr_mset (fun _ hi => PC_c (by assumption) (by decide) hi) (fun _ => ?_) | refine Fr_mset (fun _ hi => PC_c (by decide) (by decide) hi) (fun _ => ?_) | refine Fr_mset (fun _ hi => PC_n (by decide) hi) (fun _ => ?_) | refine Fr_bnd (fun _ => ?_) | refine Fr_bd ?_ (fun _ _ => ?_) | apply frd_X1_passTick_L32 | assumption | decide | intro _)

theorem frd_X1_passTicks_L2_body (q0 : Nat) (a1 : Int32) (kx1 : Mem → Ans) (kb : Int32 → Mem → Ans) (a2 : Int32) (hq0 : q0 < 2) (hx1 : ∀ (M0 : Mem), Fr PC M0 (kx1 M0)) (hb : ∀ (b2 : Int32) (M0 : Mem), Fr PC M0 (kb b2 M0)) (M : Mem) : Fr PC M (d_X1_passTicks_L2_body q0 a1 kx1 kb a2 M) := by
  unfold d_X1_passTicks_L2_body
  with_reducible repeat' (first | exact Fr_some | exact hx1 _ | exact hb _ _ | refine Fr_ite ?_ ?_ | refine Fr_chk ?_ | refine Fr_nar ?_ | refine Fr_stk (fun _ _ => ?_) | refine Fr_mup (fun _ hi => PC_s (by assumption) (by decide) hi) (fun _ => ?_) | refine Fr_mup (fun _ hi => PC_s (by decide) (by decide) hi) (fun _ => ?_) | refine Fr_mup (fun _ hi => PC_c (by assumption) (by decide) hi) (fun _ => ?_) | refine Fr_mup (fun _ hi => PC_c (by decide) (by decide) hi) (fun _ => ?_) | refine Fr_mup (fun _ hi => PC_n (by decide) hi) (fun _ => ?_) | refine Fr_mset (fun _ hi => PC_s (by assumption) (by decide) hi) (fun _ => ?_) | refine Fr_mset (fun _ hi => PC_s (by decide) (by decide) hi) (fun _ => ?_) | refine Fr_mset (fun _ hi => PC_c (by assumption) (by decide) hi) (fun _ => ?_) | refine Fr_mset (fun _ hi => PC_c (by decide) (by decide) hi) (fun _ => ?_) | refine Fr_mset (fun _ hi => PC_n (by decide) hi) (fun _ => ?_) | refine Fr_bnd (fun _ => ?_) | refine Fr_bd ?_ (fun _ _ => ?_) | apply frd_X1_passTick | assumption | decide | intro _)

theorem frd_X1_passTicks_L2 (q0 : Nat) (a1 : Int32) (kx1 : Mem → Ans) (hq0 : q0 < 2) (hx1 : ∀ (M0 : Mem), Fr PC M0 (kx1 M0)) : ∀ (n : Nat) (a2 : Int32) (M : Mem), Fr PC M (d_X1_passTicks_L2 q0 a1 kx1 n a2 M) := by
  intro n
  induction n with
  | zero => intro a2 M; exact Fr_none
  | succ n ih => intro a2 M; exact frd_X1_passTicks_L2_body q0 a1 kx1 _ a2 hq0 hx1 ih M

theorem frd_X1_passTicks (q0 : Nat) (p1 : Int32) (hq0 : q0 < 2) (M : Mem) : Fr PC M (d_X1_passTicks q0 p1 M) := by
  unfold d_X1_passTicks
  with_reducible repeat' (first | exact Fr_some | refine Fr_ite ?_ ?_ | refine Fr_chk ?_ | refine Fr_nar ?_ | refine Fr_stk (fun _ _ => ?_) | refine Fr_mup (fun _ hi => PC_s (by assumption) (by decide) hi) (fun _ => ?_) | refine Fr_mup (fun _ hi => PC_s (by decide) (by decide) hi) (fun _ => ?_) | refine Fr_mup (fun _ hi => PC_c (by assumption) (by decide) hi) (fun _ => ?_) | refine Fr_mup (fun _ hi => PC_c (by decide) (by decide) hi) (fun _ => ?_) | refine Fr_mup (fun _ hi => PC_n (by decide) hi) (fun _ => ?_) | refine Fr_mset (fun _ hi => PC_s (by assumption) (by decide) hi) (fun _ => ?_) | refine Fr_mset (fun _ hi => PC_s (by decide) (by decide) hi) (fun _ => ?_) | refine Fr_mset (fun _ hi => PC_c (by assumption) (by decide) hi) (fun _ => ?_) | refine Fr_mset (fun _ hi => PC_c (by decide) (by decide) hi) (fun _ => ?_) | refine Fr_mset (fun _ hi => PC_n (by decide) hi) (fun _ => ?_) | refine Fr_bnd (fun _ => ?_) | refine Fr_bd ?_ (fun _ _ => ?_) | apply frd_X1_passTicks_L2 | assumption | decide | intro _)

theorem frd_X1_passToEnd_L2_body (q0 : Nat) (kx1 : Mem → Ans) (kb : Int32 → Mem → Ans) (a1 : Int32) (hq0 : q0 < 2) (hx1 : ∀ (M0 : Mem), Fr PC M0 (kx1 M0)) (hb : ∀ (b1 : Int32) (M0 : Mem), Fr PC M0 (kb b1 M0)) (M : Mem) : Fr PC M (d_X1_passToEnd_L2_body q0 kx1 kb a1 M) := by
  unfold d_X1_passToEnd_L2_body
  with_reducible repeat' (first | exact Fr_some | exact hx1 _ | exact hb _ _ | refine Fr_ite ?_ ?_ | refine Fr_chk ?_ | refine Fr_nar ?_ | refine Fr_stk (fun _ _ => ?_) | refine Fr_mup (fun _ hi => PC_s (by assumption) (by decide) hi) (fun _ => ?_) | refine Fr_mup (fun _ hi => PC_s (by decide) (by decide) hi) (fun _ => ?_) | refine Fr_mup (fun _ hi => PC_c (by assumption) (by decide) hi) (fun _ => ?_) | refine Fr_mup (fun _ hi => PC_c (by decide) (by decide) hi) (fun _ => ?_) | refine Fr_mup (fun _ hi => PC_n (by decide) hi) (fun _ => ?_) | refine Fr_mset (fun _ hi => PC_s (by assumption) (by decide) hi) (fun _ => ?_) | refine Fr_mset (fun _ hi => PC_s (by decide) (by decide) hi) (fun _ => ?_) | refine Fr_mset (fun _ hi => PC_c (by assumption) (by decide) hi) (fun _ => ?_) | refine Fr_mset (fun _ hi => PC_c (by decide) (by decide) hi) (fun _ => ?_) | refine Fr_mset (fun _ hi => PC_n (by decide) hi) (fun _ => ?_) | refine Fr_bnd (fun _ => ?_) | refine Fr_bd ?_ (fun _ _ => ?_) | apply frd_X1_passTick | assumption | decide | intro _)

theorem frd_X1_passToEnd_L2 (q0 : Nat) (kx1 : Mem → Ans) (hq0 : q0 < 2) (hx1 : ∀ (M0 : Mem), Fr PC M0 (kx1 M0)) : ∀ (n : Nat) (a1 : Int32) (M : Mem), Fr PC M (d_X1_passToEnd_L2 q0 kx1 n a1 M) := by
  intro n
  induction n with
  | zero => intro a1 M; exact Fr_none
  | succ n ih => intro a1 M; exact frd_X1_passToEnd_L2_body q0 kx1 _ a1 hq0 hx1 ih M

theorem frd_X1_passToEnd (q0 : Nat) (hq0 : q0 < 2) (M : Mem) : Fr PC M (d_X1_passToEnd q0 M) := by
  unfold d_X1_passToEnd
  with_reducible repeat' (first | exact Fr_some | refine Fr_ite ?_ ?_ | refine Fr_chk ?_ | refine Fr_nar ?_ | refine Fr_stk (fun _ _ => ?_) | refine Fr_mup (fun _ hi => PC_s (by assumption) (by decide) hi) (fun _ => ?_) | refine Fr_mup (fun _ hi => PC_s (by decide) (by decide) hi) (fun _ => ?_) | refine Fr_mup (fun _ hi => PC_c (by assumption) (by decide) hi) (fun _ => ?_) | refine Fr_mup (fun _ hi => PC_c (by decide) (by decide) hi) (fun _ => ?_) | refine Fr_mup (fun _ hi => PC_n (by decide) hi) (fun _ => ?_) | refine Fr_mset (fun _ hi => PC_s (by assumption) (by decide) hi) (fun _ => ?_) | refine Fr_mset (fun _ hi => PC_s (by decide) (by decide) hi) (fun _ => ?_) | refine Fr_mset (fun _ hi => PC_c (by assumption) (by decide) hi) (fun _ => ?_) | refine Fr_mset (fun _ hi => PC_c (by decide) (by decide) hi) (fun _ => ?_) | refine Fr_mset (fun _ hi => PC_n (by decide) hi) (fun _ => ?_) | refine Fr_bnd (fun _ => ?_) | refine Fr_bd ?_ (fun _ _ => ?_) | apply frd_X1_passToEnd_L2 | assumption | decide | intro _)

theorem frd_X1_rowOf_L2_body (q0 : Nat) (a1 : Int32) (kx1 : Mem → Ans) (kb : Int32 → Mem → Ans) (a2 : Int32) (hq0 : q0 < 2) (hx1 : ∀ (M0 : Mem), Fr PC M0 (kx1 M0)) (hb : ∀ (b2 : Int32) (M0 : Mem), Fr PC M0 (kb b2 M0)) (M : Mem) : Fr PC M (d_X1_rowOf_L2_body q0 a1 kx1 kb a2 M) := by
  unfold d_X1_rowOf_L2_body
  with_reducible repeat' (first | exact Fr_some | exact hx1 _ | exact hb _ _ | refine Fr_ite ?_ ?_ | refine Fr_chk ?_ | refine Fr_nar ?_ | refine Fr_stk (fun _ _ => ?_) | refine Fr_mup (fun _ hi => PC_s (by assumption) (by decide) hi) (fun _ => ?_) | refine Fr_mup (fun _ hi => PC_s (by decide) (by decide) hi) (fun _ => ?_) | refine Fr_mup (fun _ hi => PC_c (by assumption) (by decide) hi) (fun _ => ?_) | refine Fr_mup (fun _ hi => PC_c (by decide) (by decide) hi) (fun _ => ?_) | refine Fr_mup (fun _ hi => PC_n (by decide) hi) (fun _ => ?_) | refine Fr_mset (fun _ hi => PC_s (by assumption) (by decide) hi) (fun _ => ?_) | refine Fr_mset (fun _ hi => PC_s (by decide) (by decide) hi) (fun _ => ?_) | refine Fr_mset (fun _ hi => PC_c (by assumption) (by decide) hi) (fun _ => ?_) | refine Fr_mset (fun _ hi => PC_c (by decide) (by decide) hi) (fun _ => ?_) | refine Fr_mset (fun _ hi => PC_n (by decide) hi) (fun _ => ?_) | refine Fr_bnd (fun _ => ?_) | refine Fr_bd ?_ (fun _ _ => ?_) | assumption | decide | intro _)

theorem frd_X1_rowOf_L2 (q0 : Nat) (a1 : Int32) (kx1 : Mem → Ans) (hq0 : q0 < 2) (hx1 : ∀ (M0 : Mem), Fr PC M0 (kx1 M0)) : ∀ (n : Nat) (a2 : Int32) (M : Mem), Fr PC M (d_X1_rowOf_L2 q0 a1 kx1 n a2 M) := by
  intro n
  induction n with
  | zero => intro a2 M; exact Fr_none
  | succ n ih => intro a2 M; exact frd_X1_rowOf_L2_body q0 a1 kx1 _ a2 hq0 hx1 ih M

theorem frd_X1_rowOf (q0 : Nat) (p1 : Int32) (hq0 : q0 < 2) (M : Mem) : Fr PC M (d_X1_rowOf q0 p1 M) := by
  unfold d_X1_rowOf
  with_reducible repeat' (first | exact Fr_some | refine Fr_ite ?_ ?_ | refine Fr_chk ?_ | refine Fr_nar ?_ | refine Fr_stk (fun _ _ => ?_) | refine Fr_mup (fun _ hi => PC_s (by assumption) (by decide) hi) (fun _ => ?_) | refine Fr_mup (fun _ hi => PC_s (by decide) (by decide) hi) (fun _ => ?_) | refine Fr_mup (fun _ hi => PC_c (by assumption) (by decide) hi) (fun _ => ?_) | refine Fr_mup (fun _ hi => PC_c (by decide) (by decide) hi) (fun _ => ?_) | refine Fr_mup (fun _ hi => PC_n (by decide) hi) (fun _ => ?_) | refine Fr_mset (fun _ hi => PC_s (by assumption) (by decide) hi) (fun _ => ?_) | refine Fr_mset (fun _ hi => PC_s (by decide) (by decide) hi) (fun _ => ?_) | refine Fr_mset (fun _ hi => PC_c (by assumption) (by decide) hi) (fun _ => ?_) | refine Fr_mset (fun _ hi => PC_c (by decide) (by decide) hi) (fun _ => ?_) | refine Fr_mset (fun _ hi => PC_n (by decide) hi) (fun _ => ?_) | refine Fr_bnd (fun _ => ?_) | refine Fr_bd ?_ (fun _ _ => ?_) | apply frd_X1_rowOf_L2 | assumption | decide | intro _)

theorem frd_X1_countSpoiled_B25 (q0 : Nat) (kx1 : Int32 → Mem → Ans) (kb : Int32 → Int32 → Mem → Ans) (a1 : Int32) (a2 : Int32) (hq0 : q0 < 2) (hx1 : ∀ (b1 : Int32) (M0 : Mem), Fr PC M0 (kx1 b1 M0)) (hb : ∀ (b1 : Int32) (b2 : Int32) (M0 : Mem), Fr PC M0 (kb b1 b2 M0)) (M : Mem) : Fr PC M (d_X1_countSpoiled_B25 q0 kx1 kb a1 a2 M) := by
  unfold d_X1_countSpoiled_B25
  with_reducible repeat' (first | exact Fr_some | exact hx1 _ _ | exact hb _ _ _ | refine Fr_ite ?_ ?_ | refine Fr_chk ?_ | refine Fr_nar ?_ | refine Fr_stk (fun _ _ => ?_) | refine Fr_mup (fun _ hi => PC_s (by assumption) (by decide) hi) (fun _ => ?_) | refine Fr_mup (fun _ hi => PC_s (by decide) (by decide) hi) (fun _ => ?_) | refine Fr_mup (fun _ hi => PC_c (by assumption) (by decide) hi) (fun _ => ?_) | refine Fr_mup (fun _ hi => PC_c (by decide) (by decide) hi) (fun _ => ?_) | refine Fr_mup (fun _ hi => PC_n (by decide) hi) (fun _ => ?_) | refine Fr_mset (fun _ hi => PC_s (by assumption) (by decide) hi) (fun _ => ?_) | refine Fr_mset (fun _ hi => PC_s (by decide) (by decide) hi) (fun _ => ?_) | refine Fr_mset (fun _ hi => PC_c (by assumption) (by decide) hi) (fun _ => ?_) | refine Fr_mset (fun _ hi => PC_c (by decide) (by decide) hi) (fun _ => ?_) | refine Fr_mset (fun _ hi => PC_n (by decide) hi) (fun _ => ?_) | refine Fr_bnd (fun _ => ?_) | refine Fr_bd ?_ (fun _ _ => ?_) | assumption | decide | intro _)

theorem frd_X1_countSpoiled_L4_body (q0 : Nat) (kx1 : Int32 → Mem → Ans) (kb : Int32 → Int32 → Mem → Ans) (a1 : Int32) (a2 : Int32) (hq0 : q0 < 2) (hx1 : ∀ (b1 : Int32) (M0 : Mem), Fr PC M0 (kx1 b1 M0)) (hb : ∀ (b1 : Int32) (b2 : Int32) (M0 : Mem), Fr PC M0 (kb b1 b2 M0)) (M : Mem) : Fr PC M (d_X1_countSpoiled_L4_body q0 kx1 kb a1 a2 M) := by
  unfold d_X1_countSpoiled_L4_body
  with_reducible repeat' (first | exact Fr_some | exact hx1 _ _ | exact hb _ _ _ | refine Fr_ite ?_ ?_ | refine Fr_chk ?_ | refine Fr_nar ?_ | refine Fr_stk (fun _ _ => ?_) | refine Fr_mup (fun _ hi => PC_s (by assumption) (by decide) hi) (fun _ => ?_) | refine Fr_mup (fun _ hi => PC_s (by decide) (by decide) hi) (fun _ => ?_) | refine Fr_mup (fun _ hi => PC_c (by assumption) (by decide) hi) (fun _ => ?_) | refine Fr_mup (fun _ hi => PC_c (by decide) (by decide) hi) (fun _ => ?_) | refine Fr_mup (fun _ hi => PC_n (by decide) hi) (fun _ => ?_) | refine Fr_mset (fun _ hi => PC_s (by assumption) (by decide) hi) (fun _ => ?_) | refine Fr_mset (fun _ hi => PC_s (by decide) (by decide) hi) (fun _ => ?_) | refine Fr_mset (fun _ hi => PC_c (by assumption) (by decide) hi) (fun _ => ?_) | refine Fr_mset (fun _ hi => PC_c (by decide) (by decide) hi) (fun _ => ?_) | refine Fr_mset (fun _ hi => PC_n (by decide) hi) (fun _ => ?_) | refine Fr_bnd (fun _ => ?_) | refine Fr_bd ?_ (fun _ _ => ?_) | apply frd_X1_countSpoiled_B25 | assumption | decide | intro _)

theorem frd_X1_countSpoiled_L4 (q0 : Nat) (kx1 : Int32 → Mem → Ans) (hq0 : q0 < 2) (hx1 : ∀ (b1 : Int32) (M0 : Mem), Fr PC M0 (kx1 b1 M0)) : ∀ (n : Nat) (a1 : Int32) (a2 : Int32) (M : Mem), Fr PC M (d_X1_countSpoiled_L4 q0 kx1 n a1 a2 M) := by
  intro n
  induction n with
  | zero => intro a1 a2 M; exact Fr_none
  | succ n ih => intro a1 a2 M; exact frd_X1_countSpoiled_L4_body q0 kx1 _ a1 a2 hq0 hx1 ih M

theorem frd_X1_countSpoiled (q0 : Nat) (hq0 : q0 < 2) (M : Mem) : Fr PC M (d_X1_countSpoiled q0 M) := by
  unfold d_X1_countSpoiled
  with_reducible repeat' (first | exact Fr_some | refine Fr_ite ?_ ?_ | refine Fr_chk ?_ | refine Fr_nar ?_ | refine Fr_stk (fun _ _ => ?_) | refine Fr_mup (fun _ hi => PC_s (by assumption) (by decide) hi) (fun _ => ?_) | refine Fr_mup (fun _ hi => PC_s (by decide) (by decide) hi) (fun _ => ?_) | refine Fr_mup (fun _ hi => PC_c (by assumption) (by decide) hi) (fun _ => ?_) | refine Fr_mup (fun _ hi => PC_c (by decide) (by decide) hi) (fun _ => ?_) | refine Fr_mup (fun _ hi => PC_n (by decide) hi) (fun _ => ?_) | refine Fr_mset (fun _ hi => PC_s (by assumption) (by decide) hi) (fun _ => ?_) | refine Fr_mset (fun _ hi => PC_s (by decide) (by decide) hi) (fun _ => ?_) | refine Fr_mset (fun _ hi => PC_c (by assumption) (by decide) hi) (fun _ => ?_) | refine Fr_mset (fun _ hi => PC_c (by decide) (by decide) hi) (fun _ => ?_) | refine Fr_mset (fun _ hi => PC_n (by decide) hi) (fun _ => ?_) | refine Fr_bnd (fun _ => ?_) | refine Fr_bd ?_ (fun _ _ => ?_) | apply frd_X1_countSpoiled_L4 | assumption | decide | intro _)

theorem frd_X2_dropOldest_L9_body (q1 : Nat) (kx1 : Mem → Ans) (kb : Int32 → Mem → Ans) (a2 : Int32) (hq1 : q1 < 7) (hx1 : ∀ (M0 : Mem), Fr PC M0 (kx1 M0)) (hb : ∀ (b2 : Int32) (M0 : Mem), Fr PC M0 (kb b2 M0)) (M : Mem) : Fr PC M (d_X2_dropOldest_L9_body q1 kx1 kb a2 M) := by
  unfold d_X2_dropOldest_L9_body
  with_reducible repeat' (first | exact Fr_some | exact hx1 _ | exact hb _ _ | refine Fr_ite ?_ ?_ | refine Fr_chk ?_ | refine Fr_nar ?_ | refine Fr_stk (fun _ _ => ?_) | refine Fr_mup (fun _ hi => PC_s (by assumption) (by decide) hi) (fun _ => ?_) | refine Fr_mup (fun _ hi => PC_s (by decide) (by decide) hi) (fun _ => ?_) | refine Fr_mup (fun _ hi => PC_c (by assumption) (by decide) hi) (fun _ => ?_) | refine Fr_mup (fun _ hi => PC_c (by decide) (by decide) hi) (fun _ => ?_) | refine Fr_mup (fun _ hi => PC_n (by decide) hi) (fun _ => ?_) | refine Fr_mset (fun _ hi => PC_s (by assumption) (by decide) hi) (fun _ => ?_) | refine Fr_mset (fun _ hi => PC_s (by decide) (by decide) hi) (fun _ => ?_) | refine Fr_mset (fun _ hi => PC_c (by assumption) (by decide) hi) (fun _ => ?_) | refine Fr_mset (fun _ hi => PC_c (by decide) (by decide) hi) (fun _ => ?_) | refine Fr_mset (fun _ hi => PC_n (by decide) hi) (fun _ => ?_) | refine Fr_bnd (fun _ => ?_) | refine Fr_bd ?_ (fun _ _ => ?_) | assumption | decide | intro _)

theorem frd_X2_dropOldest_L9 (q1 : Nat) (kx1 : Mem → Ans) (hq1 : q1 < 7) (hx1 : ∀ (M0 : Mem), Fr PC M0 (kx1 M0)) : ∀ (n : Nat) (a2 : Int32) (M : Mem), Fr PC M (d_X2_dropOldest_L9 q1 kx1 n a2 M) := by
  intro n
  induction n with
  | zero => intro a2 M; exact Fr_none
  | succ n ih => intro a2 M; exact frd_X2_dropOldest_L9_body q1 kx1 _ a2 hq1 hx1 ih M

theorem frd_X2_dropOldest (M : Mem) : Fr PC M (d_X2_dropOldest M) := by
  unfold d_X2_dropOldest
  with_reducible repeat' (first | exact Fr_some | refine Fr_ite ?_ ?_ | refine Fr_chk ?_ | refine Fr_nar ?_ | refine Fr_stk (fun _ _ => ?_) | refine Fr_mup (fun _ hi => PC_s (by assumption) (by decide) hi) (fun _ => ?_) | refine Fr_mup (fun _ hi => PC_s (by decide) (by decide) hi) (fun _ => ?_) | refine Fr_mup (fun _ hi => PC_c (by assumption) (by decide) hi) (fun _ => ?_) | refine Fr_mup (fun _ hi => PC_c (by decide) (by decide) hi) (fun _ => ?_) | refine Fr_mup (fun _ hi => PC_n (by decide) hi) (fun _ => ?_) | refine Fr_mset (fun _ hi => PC_s (by assumption) (by decide) hi) (fun _ => ?_) | refine Fr_mset (fun _ hi => PC_s (by decide) (by decide) hi) (fun _ => ?_) | refine Fr_mset (fun _ hi => PC_c (by assumption) (by decide) hi) (fun _ => ?_) | refine Fr_mset (fun _ hi => PC_c (by decide) (by decide) hi) (fun _ => ?_) | refine Fr_mset (fun _ hi => PC_n (by decide) hi) (fun _ => ?_) | refine Fr_bnd (fun _ => ?_) | refine Fr_bd ?_ (fun _ _ => ?_) | apply frd_X2_dropOldest_L9 | assumption | decide | intro _)

theorem frd_X4_copyFrom (q0 : Nat) (q1 : Nat) (hq0 : q0 < 7) (hq1 : q1 < 7) (M : Mem) : Fr PC M (d_X4_copyFrom q0 q1 M) := by
  unfold d_X4_copyFrom
  with_reducible repeat' (first | exact Fr_some | refine Fr_ite ?_ ?_ | refine Fr_chk ?_ | refine Fr_nar ?_ | refine Fr_stk (fun _ _ => ?_) | refine Fr_mup (fun _ hi => PC_s (by assumption) (by decide) hi) (fun _ => ?_) | refine Fr_mup (fun _ hi => PC_s (by decide) (by decide) hi) (fun _ => ?_) | refine Fr_mup (fun _ hi => PC_c (by assumption) (by decide) hi) (fun _ => ?_) | refine Fr_mup (fun _ hi => PC_c (by decide) (by decide) hi) (fun _ => ?_) | refine Fr_mup (fun _ hi => PC_n (by decide) hi) (fun _ => ?_) | refine Fr_mset (fun _ hi => PC_s (by assumption) (by decide) hi) (fun _ => ?_) | refine Fr_mset (fun _ hi => PC_s (by decide) (by decide) hi) (fun _ => ?_) | refine Fr_mset (fun _ hi => PC_c (by assumption) (by decide) hi) (fun _ => ?_) | refine Fr_mset (fun _ hi => PC_c (by decide) (by decide) hi) (fun _ => ?_) | refine Fr_mset (fun _ hi => PC_n (by decide) hi) (fun _ => ?_) | refine Fr_bnd (fun _ => ?_) | refine Fr_bd ?_ (fun _ _ => ?_) | assumption | decide | intro _)

theorem frd_X7_copyFrom (q0 : Nat) (q1 : Nat) (hq0 : q0 < 7) (hq1 : q1 < 7) (M : Mem) : Fr PC M (d_X7_copyFrom q0 q1 M) := by
  unfold d_X7_copyFrom
  with_reducible repeat' (first | exact Fr_some | refine Fr_ite ?_ ?_ | refine Fr_chk ?_ | refine Fr_nar ?_ | refine Fr_stk (fun _ _ => ?_) | refine Fr_mup (fun _ hi => PC_s (by assumption) (by decide) hi) (fun _ => ?_) | refine Fr_mup (fun _ hi => PC_s (by decide) (by decide) hi) (fun _ => ?_) | refine Fr_mup (fun _ hi => PC_c (by assumption) (by decide) hi) (fun _ => ?_) | refine Fr_mup (fun _ hi => PC_c (by decide) (by decide) hi) (fun _ => ?_) | refine Fr_mup (fun _ hi => PC_n (by decide) hi) (fun _ => ?_) | refine Fr_mset (fun _ hi => PC_s (by assumption) (by decide) hi) (fun _ => ?_) | refine Fr_mset (fun _ hi => PC_s (by decide) (by decide) hi) (fun _ => ?_) | refine Fr_mset (fun _ hi => PC_c (by assumption) (by decide) hi) (fun _ => ?_) | refine Fr_mset (fun _ hi => PC_c (by decide) (by decide) hi) (fun _ => ?_) | refine Fr_mset (fun _ hi => PC_n (by decide) hi) (fun _ => ?_) | refine Fr_bnd (fun _ => ?_) | refine Fr_bd ?_ (fun _ _ => ?_) | assumption | decide | intro _)

theorem frd_X5_copyFrom (q0 : Nat) (q1 : Nat) (hq0 : q0 < 7) (hq1 : q1 < 7) (M : Mem) : Fr PC M (d_X5_copyFrom q0 q1 M) := by
  unfold d_X5_copyFrom
  with_reducible repeat' (first | exact Fr_some | refine Fr_ite ?_ ?_ | refine Fr_chk ?_ | refine Fr_nar ?_ | refine Fr_stk (fun _ _ => ?_) | refine Fr_mup (fun _ hi => PC_s (by assumption) (by decide) hi) (fun _ => ?_) | refine Fr_mup (fun _ hi => PC_s (by decide) (by decide) hi) (fun _ => ?_) | refine Fr_mup (fun _ hi => PC_c (by assumption) (by decide) hi) (fun _ => ?_) | refine Fr_mup (fun _ hi => PC_c (by decide) (by decide) hi) (fun _ => ?_) | refine Fr_mup (fun _ hi => PC_n (by decide) hi) (fun _ => ?_) | refine Fr_mset (fun _ hi => PC_s (by assumption) (by decide) hi) (fun _ => ?_) | refine Fr_mset (fun _ hi => PC_s (by decide) (by decide) hi) (fun _ => ?_) | refine Fr_mset (fun _ hi => PC_c (by assumption) (by decide) hi) (fun _ => ?_) | refine Fr_mset (fun _ hi => PC_c (by decide) (by decide) hi) (fun _ => ?_) | refine Fr_mset (fun _ hi => PC_n (by decide) hi) (fun _ => ?_) | refine Fr_bnd (fun _ => ?_) | refine Fr_bd ?_ (fun _ _ => ?_) | apply frd_X4_copyFrom | apply frd_X0_copyFrom | apply frd_X7_copyFrom | assumption | decide | intro _)

theorem frd_X2_push_B12 (q1 : Nat) (hq1 : q1 < 7) (M : Mem) : Fr PC M (d_X2_push_B12 q1 M) := by
  unfold d_X2_push_B12
  with_reducible repeat' (first | exact Fr_some | refine Fr_ite ?_ ?_ | refine Fr_chk ?_ | refine Fr_nar ?_ | refine Fr_stk (fun _ _ => ?_) | refine Fr_mup (fun _ hi => PC_s (by assumption) (by decide) hi) (fun _ => ?_) | refine Fr_mup (fun _ hi => PC_s (by decide) (by decide) hi) (fun _ => ?_) | refine Fr_mup (fun _ hi => PC_c (by assumption) (by decide) hi) (fun _ => ?_) | refine Fr_mup (fun _ hi => PC_c (by decide) (by decide) hi) (fun _ => ?_) | refine Fr_mup (fun _ hi => PC_n (by decide) hi) (fun _ => ?_) | refine Fr_mset (fun _ hi => PC_s (by assumption) (by decide) hi) (fun _ => ?_) | refine Fr_mset (fun _ hi => PC_s (by decide) (by decide) hi) (fun _ => ?_) | refine Fr_mset (fun _ hi => PC_c (by assumption) (by decide) hi) (fun _ => ?_) | refine Fr_mset (fun _ hi => PC_c (by decide) (by decide) hi) (fun _ => ?_) | refine Fr_mset (fun _ hi => PC_n (by decide) hi) (fun _ => ?_) | refine Fr_bnd (fun _ => ?_) | refine Fr_bd ?_ (fun _ _ => ?_) | apply frd_X5_copyFrom | assumption | decide | intro _)

theorem frd_X2_push (q1 : Nat) (hq1 : q1 < 7) (M : Mem) : Fr PC M (d_X2_push q1 M) := by
  unfold d_X2_push
  with_reducible repeat' (first | exact Fr_some | refine Fr_ite ?_ ?_ | refine Fr_chk ?_ | refine Fr_nar ?_ | refine Fr_stk (fun _ _ => ?_) | refine Fr_mup (fun _ hi => PC_s (by assumption) (by decide) hi) (fun _ => ?_) | refine Fr_mup (fun _ hi => PC_s (by decide) (by decide) hi) (fun _ => ?_) | refine Fr_mup (fun _ hi => PC_c (by assumption) (by decide) hi) (fun _ => ?_) | refine Fr_mup (fun _ hi => PC_c (by decide) (by decide) hi) (fun _ => ?_) | refine Fr_mup (fun _ hi => PC_n (by decide) hi) (fun _ => ?_) | refine Fr_mset (fun _ hi => PC_s (by assumption) (by decide) hi) (fun _ => ?_) | refine Fr_mset (fun _ hi => PC_s (by decide) (by decide) hi) (fun _ => ?_) | refine Fr_mset (fun _ hi => PC_c (by assumption) (by decide) hi) (fun _ => ?_) | refine Fr_mset (fun _ hi => PC_c (by decide) (by decide) hi) (fun _ => ?_) | refine Fr_mset (fun _ hi => PC_n (by decide) hi) (fun _ => ?_) | refine Fr_bnd (fun _ => ?_) | refine Fr_bd ?_ (fun _ _ => ?_) | apply frd_X2_push_B12 | apply frd_X2_dropOldest | assumption | decide | intro _)

theorem frd_X2_popInto (q1 : Nat) (hq1 : q1 < 7) (M : Mem) : Fr PC M (d_X2_popInto q1 M) := by
  unfold d_X2_popInto
  with_reducible repeat' (first | exact Fr_some | refine Fr_ite ?_ ?_ | refine Fr_chk ?_ | refine Fr_nar ?_ | refine Fr_stk (fun _ _ => ?_) | refine Fr_mup (fun _ hi => PC_s (by assumption) (by decide) hi) (fun _ => ?_) | refine Fr_mup (fun _ hi => PC_s (by decide) (by decide) hi) (fun _ => ?_) | refine Fr_mup (fun _ hi => PC_c (by assumption) (by decide) hi) (fun _ => ?_) | refine Fr_mup (fun _ hi => PC_c (by decide) (by decide) hi) (fun _ => ?_) | refine Fr_mup (fun _ hi => PC_n (by decide) hi) (fun _ => ?_) | refine Fr_mset (fun _ hi => PC_s (by assumption) (by decide) hi) (fun _ => ?_) | refine Fr_mset (fun _ hi => PC_s (by decide) (by decide) hi) (fun _ => ?_) | refine Fr_mset (fun _ hi => PC_c (by assumption) (by decide) hi) (fun _ => ?_) | refine Fr_mset (fun _ hi => PC_c (by decide) (by decide) hi) (fun _ => ?_) | refine Fr_mset (fun _ hi => PC_n (by decide) hi) (fun _ => ?_) | refine Fr_bnd (fun _ => ?_) | refine Fr_bd ?_ (fun _ _ => ?_) | apply frd_X5_copyFrom | assumption | decide | intro _)

theorem frd_X3_forecastWithout_L20_body (q1 : Nat) (kx1 : Mem → Ans) (kb : Int32 → Mem → Ans) (a3 : Int32) (hq1 : q1 < 7) (hx1 : ∀ (M0 : Mem), Fr PC M0 (kx1 M0)) (hb : ∀ (b3 : Int32) (M0 : Mem), Fr PC M0 (kb b3 M0)) (M : Mem) : Fr PC M (d_X3_forecastWithout_L20_body q1 kx1 kb a3 M) := by
  unfold d_X3_forecastWithout_L20_body
  with_reducible repeat' (first | exact Fr_some | exact hx1 _ | exact hb _ _ | refine Fr_ite ?_ ?_ | refine Fr_chk ?_ | refine Fr_nar ?_ | refine Fr_stk (fun _ _ => ?_) | refine Fr_mup (fun _ hi => PC_s (by assumption) (by decide) hi) (fun _ => ?_) | refine Fr_mup (fun _ hi => PC_s (by decide) (by decide) hi) (fun _ => ?_) | refine Fr_mup (fun _ hi => PC_c (by assumption) (by decide) hi) (fun _ => ?_) | refine Fr_mup (fun _ hi => PC_c (by decide) (by decide) hi) (fun _ => ?_) | refine Fr_mup (fun _ hi => PC_n (by decide) hi) (fun _ => ?_) | refine Fr_mset (fun _ hi => PC_s (by assumption) (by decide) hi) (fun _ => ?_) | refine Fr_mset (fun _ hi => PC_s (by decide) (by decide) hi) (fun _ => ?_) | refine Fr_mset (fun _ hi => PC_c (by assumption) (by decide) hi) (fun _ => ?_) | refine Fr_mset (fun _ hi => PC_c (by decide) (by decide) hi) (fun _ => ?_) | refine Fr_mset (fun _ hi => PC_n (by decide) hi) (fun _ => ?_) | refine Fr_bnd (fun _ => ?_) | refine Fr_bd ?_ (fun _ _ => ?_) | assumption | decide | intro _)

theorem frd_X3_forecastWithout_L20 (q1 : Nat) (kx1 : Mem → Ans) (hq1 : q1 < 7) (hx1 : ∀ (M0 : Mem), Fr PC M0 (kx1 M0)) : ∀ (n : Nat) (a3 : Int32) (M : Mem), Fr PC M (d_X3_forecastWithout_L20 q1 kx1 n a3 M) := by
  intro n
  induction n with
  | zero => intro a3 M; exact Fr_none
  | succ n ih => intro a3 M; exact frd_X3_forecastWithout_L20_body q1 kx1 _ a3 hq1 hx1 ih M

theorem frd_X3_forecastWithout_B100 (q1 : Nat) (kx1 : Mem → Ans) (kb : Int32 → Mem → Ans) (a3 : Int32) (hq1 : q1 < 7) (hx1 : ∀ (M0 : Mem), Fr PC M0 (kx1 M0)) (hb : ∀ (b3 : Int32) (M0 : Mem), Fr PC M0 (kb b3 M0)) (M : Mem) : Fr PC M (d_X3_forecastWithout_B100 q1 kx1 kb a3 M) := by
  unfold d_X3_forecastWithout_B100
  with_reducible repeat' (first | exact Fr_some | exact hx1 _ | exact hb _ _ | refine Fr_ite ?_ ?_ | refine Fr_chk ?_ | refine Fr_nar ?_ | refine Fr_stk (fun _ _ => ?_) | refine Fr_mup (fun _ hi => PC_s (by assumption) (by decide) hi) (fun _ => ?_) | refine Fr_mup (fun _ hi => PC_s (by decide) (by decide) hi) (fun _ => ?_) | refine Fr_mup (fun _ hi => PC_c (by assumption) (by decide) hi) (fun _ => ?_) | refine Fr_mup (fun _ hi => PC_c (by decide) (by decide) hi) (fun _ => ?_) | refine Fr_mup (fun _ hi => PC_n (by decide) hi) (fun _ => ?_) | refine Fr_mset (fun _ hi => PC_s (by assumption) (by decide) hi) (fun _ => ?_) | refine Fr_mset (fun _ hi => PC_s (by decide) (by decide) hi) (fun _ => ?_) | refine Fr_mset (fun _ hi => PC_c (by assumption) (by decide) hi) (fun _ => ?_) | refine Fr_mset (fun _ hi => PC_c (by decide) (by decide) hi) (fun _ => ?_) | refine Fr_mset (fun _ hi => PC_n (by decide) hi) (fun _ => ?_) | refine Fr_bnd (fun _ => ?_) | refine Fr_bd ?_ (fun _ _ => ?_) | assumption | decide | intro _)

theorem frd_X3_forecastWithout_B99 (q1 : Nat) (kx1 : Mem → Ans) (kb : Int32 → Mem → Ans) (a3 : Int32) (s0 : Int32) (s1 : Int32) (hq1 : q1 < 7) (hx1 : ∀ (M0 : Mem), Fr PC M0 (kx1 M0)) (hb : ∀ (b3 : Int32) (M0 : Mem), Fr PC M0 (kb b3 M0)) (M : Mem) : Fr PC M (d_X3_forecastWithout_B99 q1 kx1 kb a3 s0 s1 M) := by
  unfold d_X3_forecastWithout_B99
  with_reducible repeat' (first | exact Fr_some | exact hx1 _ | exact hb _ _ | refine Fr_ite ?_ ?_ | refine Fr_chk ?_ | refine Fr_nar ?_ | refine Fr_stk (fun _ _ => ?_) | refine Fr_mup (fun _ hi => PC_s (by assumption) (by decide) hi) (fun _ => ?_) | refine Fr_mup (fun _ hi => PC_s (by decide) (by decide) hi) (fun _ => ?_) | refine Fr_mup (fun _ hi => PC_c (by assumption) (by decide) hi) (fun _ => ?_) | refine Fr_mup (fun _ hi => PC_c (by decide) (by decide) hi) (fun _ => ?_) | refine Fr_mup (fun _ hi => PC_n (by decide) hi) (fun _ => ?_) | refine Fr_mset (fun _ hi => PC_s (by assumption) (by decide) hi) (fun _ => ?_) | refine Fr_mset (fun _ hi => PC_s (by decide) (by decide) hi) (fun _ => ?_) | refine Fr_mset (fun _ hi => PC_c (by assumption) (by decide) hi) (fun _ => ?_) | refine Fr_mset (fun _ hi => PC_c (by decide) (by decide) hi) (fun _ => ?_) | refine Fr_mset (fun _ hi => PC_n (by decide) hi) (fun _ => ?_) | refine Fr_bnd (fun _ => ?_) | refine Fr_bd ?_ (fun _ _ => ?_) | apply frd_X3_forecastWithout_B100 | assumption | decide | intro _)

theorem frd_X3_forecastWithout_L41_body (q1 : Nat) (kx1 : Mem → Ans) (kb : Int32 → Mem → Ans) (a3 : Int32) (hq1 : q1 < 7) (hx1 : ∀ (M0 : Mem), Fr PC M0 (kx1 M0)) (hb : ∀ (b3 : Int32) (M0 : Mem), Fr PC M0 (kb b3 M0)) (M : Mem) : Fr PC M (d_X3_forecastWithout_L41_body q1 kx1 kb a3 M) := by
  unfold d_X3_forecastWithout_L41_body
  with_reducible repeat' (first | exact Fr_some | exact hx1 _ | exact hb _ _ | refine Fr_ite ?_ ?_ | refine Fr_chk ?_ | refine Fr_nar ?_ | refine Fr_stk (fun _ _ => ?_) | refine Fr_mup (fun _ hi => PC_s (by assumption) (by decide) hi) (fun _ => ?_) | refine Fr_mup (fun _ hi => PC_s (by decide) (by decide) hi) (fun _ => ?_) | refine Fr_mup (fun _ hi => PC_c (by assumption) (by decide) hi) (fun _ => ?_) | refine Fr_mup (fun _ hi => PC_c (by decide) (by decide) hi) (fun _ => ?_) | refine Fr_mup (fun _ hi => PC_n (by decide) hi) (fun _ => ?_) | refine Fr_mset (fun _ hi => PC_s (by assumption) (by decide) hi) (fun _ => ?_) | refine Fr_mset (fun _ hi => PC_s (by decide) (by decide) hi) (fun _ => ?_) | refine Fr_mset (fun _ hi => PC_c (by assumption) (by decide) hi) (fun _ => ?_) | refine Fr_mset (fun _ hi => PC_c (by decide) (by decide) hi) (fun _ => ?_) | refine Fr_mset (fun _ hi => PC_n (by decide) hi) (fun _ => ?_) | refine Fr_bnd (fun _ => ?_) | refine Fr_bd ?_ (fun _ _ => ?_) | apply frd_X3_forecastWithout_B100 | apply frd_X3_forecastWithout_B99 | assumption | decide | intro _)

theorem frd_X3_forecastWithout_L41 (q1 : Nat) (kx1 : Mem → Ans) (hq1 : q1 < 7) (hx1 : ∀ (M0 : Mem), Fr PC M0 (kx1 M0)) : ∀ (n : Nat) (a3 : Int32) (M : Mem), Fr PC M (d_X3_forecastWithout_L41 q1 kx1 n a3 M) := by
  intro n
  induction n with
  | zero => intro a3 M; exact Fr_none
  | succ n ih => intro a3 M; exact frd_X3_forecastWithout_L41_body q1 kx1 _ a3 hq1 hx1 ih M

theorem frd_X3_forecastWithout (q1 : Nat) (p2 : Int32) (hq1 : q1 < 7) (M : Mem) : Fr PC M (d_X3_forecastWithout q1 p2 M) := by
  unfold d_X3_forecastWithout
  with_reducible repeat' (first | exact Fr_some | refine Fr_ite ?_ ?_ | refine Fr_chk ?_ | refine Fr_nar ?_ | refine Fr_stk (fun _ _ => ?_) | refine Fr_mup (fun _ hi => PC_s (by assumption) (by decide) hi) (fun _ => ?_) | refine Fr_mup (fun _ hi => PC_s (by decide) (by decide) hi) (fun _ => ?_) | refine Fr_mup (fun _ hi => PC_c (by assumption) (by decide) hi) (fun _ => ?_) | refine Fr_mup (fun _ hi => PC_c (by decide) (by decide) hi) (fun _ => ?_) | refine Fr_mup (fun _ hi => PC_n (by decide) hi) (fun _ => ?_) | refine Fr_mset (fun _ hi => PC_s (by assumption) (by decide) hi) (fun _ => ?_) | refine Fr_mset (fun _ hi => PC_s (by decide) (by decide) hi) (fun _ => ?_) | refine Fr_mset (fun _ hi => PC_c (by assumption) (by decide) hi) (fun _ => ?_) | refine Fr_mset (fun _ hi => PC_c (by decide) (by decide) hi) (fun _ => ?_) | refine Fr_mset (fun _ hi => PC_n (by decide) hi) (fun _ => ?_) | refine Fr_bnd (fun _ => ?_) | refine Fr_bd ?_ (fun _ _ => ?_) | apply frd_X1_beginWith | apply frd_X1_passToEnd | apply frd_X3_forecastWithout_L20 | apply frd_X3_forecastWithout_L41 | assumption | decide | intro _)

theorem frd_X4_lastBusy (q0 : Nat) (p1 : Int32) (p2 : Int32) (hq0 : q0 < 7) (M : Mem) : Fr PC M (d_X4_lastBusy q0 p1 p2 M) := by
  unfold d_X4_lastBusy
  with_reducible repeat' (first | exact Fr_some | refine Fr_ite ?_ ?_ | refine Fr_chk ?_ | refine Fr_nar ?_ | refine Fr_stk (fun _ _ => ?_) | refine Fr_mup (fun _ hi => PC_s (by assumption) (by decide) hi) (fun _ => ?_) | refine Fr_mup (fun _ hi => PC_s (by decide) (by decide) hi) (fun _ => ?_) | refine Fr_mup (fun _ hi => PC_c (by assumption) (by decide) hi) (fun _ => ?_) | refine Fr_mup (fun _ hi => PC_c (by decide) (by decide) hi) (fun _ => ?_) | refine Fr_mup (fun _ hi => PC_n (by decide) hi) (fun _ => ?_) | refine Fr_mset (fun _ hi => PC_s (by assumption) (by decide) hi) (fun _ => ?_) | refine Fr_mset (fun _ hi => PC_s (by decide) (by decide) hi) (fun _ => ?_) | refine Fr_mset (fun _ hi => PC_c (by assumption) (by decide) hi) (fun _ => ?_) | refine Fr_mset (fun _ hi => PC_c (by decide) (by decide) hi) (fun _ => ?_) | refine Fr_mset (fun _ hi => PC_n (by decide) hi) (fun _ => ?_) | refine Fr_bnd (fun _ => ?_) | refine Fr_bd ?_ (fun _ _ => ?_) | apply frd_X4_has | assumption | decide | intro _)

theorem frd_X5_firstMeeting_B83 (q0 : Nat) (kx1 : Mem → Ans) (kb : Int32 → Mem → Ans) (a1 : Int32) (a2 : Int32) (a3 : Int32) (a4 : Int32) (a5 : Int32) (hq0 : q0 < 7) (hx1 : ∀ (M0 : Mem), Fr PC M0 (kx1 M0)) (hb : ∀ (b5 : Int32) (M0 : Mem), Fr PC M0 (kb b5 M0)) (M : Mem) : Fr PC M (d_X5_firstMeeting_B83 q0 kx1 kb a1 a2 a3 a4 a5 M) := by
  unfold d_X5_firstMeeting_B83
  with_reducible repeat' (first | exact Fr_some | exact hx1 _ | exact hb _ _ | refine Fr_ite ?_ ?_ | refine Fr_chk ?_ | refine Fr_nar ?_ | refine Fr_stk (fun _ _ => ?_) | refine Fr_mup (fun _ hi => PC_s (by assumption) (by decide) hi) (fun _ => ?_) | refine Fr_mup (fun _ hi => PC_s (by decide) (by decide) hi) (fun _ => ?_) | refine Fr_mup (fun _ hi => PC_c (by assumption) (by decide) hi) (fun _ => ?_) | refine Fr_mup (fun _ hi => PC_c (by decide) (by decide) hi) (fun _ => ?_) | refine Fr_mup (fun _ hi => PC_n (by decide) hi) (fun _ => ?_) | refine Fr_mset (fun _ hi => PC_s (by assumption) (by decide) hi) (fun _ => ?_) | refine Fr_mset (fun _ hi => PC_s (by decide) (by decide) hi) (fun _ => ?_) | refine Fr_mset (fun _ hi => PC_c (by assumption) (by decide) hi) (fun _ => ?_) | refine Fr_mset (fun _ hi => PC_c (by decide) (by decide) hi) (fun _ => ?_) | refine Fr_mset (fun _ hi => PC_n (by decide) hi) (fun _ => ?_) | refine Fr_bnd (fun _ => ?_) | refine Fr_bd ?_ (fun _ _ => ?_) | assumption | decide | intro _)

theorem frd_X5_firstMeeting_L3_body (q0 : Nat) (a1 : Int32) (a2 : Int32) (a3 : Int32) (a4 : Int32) (kx1 : Mem → Ans) (kb : Int32 → Mem → Ans) (a5 : Int32) (hq0 : q0 < 7) (hx1 : ∀ (M0 : Mem), Fr PC M0 (kx1 M0)) (hb : ∀ (b5 : Int32) (M0 : Mem), Fr PC M0 (kb b5 M0)) (M : Mem) : Fr PC M (d_X5_firstMeeting_L3_body q0 a1 a2 a3 a4 kx1 kb a5 M) := by
  unfold d_X5_firstMeeting_L3_body
  with_reducible repeat' (first | exact Fr_some | exact hx1 _ | exact hb _ _ | refine Fr_ite ?_ ?_ | refine Fr_chk ?_ | refine Fr_nar ?_ | refine Fr_stk (fun _ _ => ?_) | refine Fr_mup (fun _ hi => PC_s (by assumption) (by decide) hi) (fun _ => ?_) | refine Fr_mup (fun _ hi => PC_s (by decide) (by decide) hi) (fun _ => ?_) | refine Fr_mup (fun _ hi => PC_c (by assumption) (by decide) hi) (fun _ => ?_) | refine Fr_mup (fun _ hi => PC_c (by decide) (by decide) hi) (fun _ => ?_) | refine Fr_mup (fun _ hi => PC_n (by decide) hi) (fun _ => ?_) | refine Fr_mset (fun _ hi => PC_s (by assumption) (by decide) hi) (fun _ => ?_) | refine Fr_mset (fun _ hi => PC_s (by decide) (by decide) hi) (fun _ => ?_) | refine Fr_mset (fun _ hi => PC_c (by assumption) (by decide) hi) (fun _ => ?_) | refine Fr_mset (fun _ hi => PC_c (by decide) (by decide) hi) (fun _ => ?_) | refine Fr_mset (fun _ hi => PC_n (by decide) hi) (fun _ => ?_) | refine Fr_bnd (fun _ => ?_) | refine Fr_bd ?_ (fun _ _ => ?_) | apply frd_X5_firstMeeting_B83 | apply frd_X0_keepsBusy | apply frd_X4_lastBusy | assumption | decide | intro _)

theorem frd_X5_firstMeeting_L3 (q0 : Nat) (a1 : Int32) (a2 : Int32) (a3 : Int32) (a4 : Int32) (kx1 : Mem → Ans) (hq0 : q0 < 7) (hx1 : ∀ (M0 : Mem), Fr PC M0 (kx1 M0)) : ∀ (n : Nat) (a5 : Int32) (M : Mem), Fr PC M (d_X5_firstMeeting_L3 q0 a1 a2 a3 a4 kx1 n a5 M) := by
  intro n
  induction n with
  | zero => intro a5 M; exact Fr_none
  | succ n ih => intro a5 M; exact frd_X5_firstMeeting_L3_body q0 a1 a2 a3 a4 kx1 _ a5 hq0 hx1 ih M

theorem frd_X5_firstMeeting (q0 : Nat) (p1 : Int32) (p2 : Int32) (p3 : Int32) (p4 : Int32) (hq0 : q0 < 7) (M : Mem) : Fr PC M (d_X5_firstMeeting q0 p1 p2 p3 p4 M) := by
  unfold d_X5_firstMeeting
  with_reducible repeat' (first | exact Fr_some | refine Fr_ite ?_ ?_ | refine Fr_chk ?_ | refine Fr_nar ?_ | refine Fr_stk (fun _ _ => ?_) | refine Fr_mup (fun _ hi => PC_s (by assumption) (by decide) hi) (fun _ => ?_) | refine Fr_mup (fun _ hi => PC_s (by decide) (by decide) hi) (fun _ => ?_) | refine Fr_mup (fun _ hi => PC_c (by assumption) (by decide) hi) (fun _ => ?_) | refine Fr_mup (fun _ hi => PC_c (by decide) (by decide) hi) (fun _ => ?_) | refine Fr_mup (fun _ hi => PC_n (by decide) hi) (fun _ => ?_) | refine Fr_mset (fun _ hi => PC_s (by assumption) (by decide) hi) (fun _ => ?_) | refine Fr_mset (fun _ hi => PC_s (by decide) (by decide) hi) (fun _ => ?_) | refine Fr_mset (fun _ hi => PC_c (by assumption) (by decide) hi) (fun _ => ?_) | refine Fr_mset (fun _ hi => PC_c (by decide) (by decide) hi) (fun _ => ?_) | refine Fr_mset (fun _ hi => PC_n (by decide) hi) (fun _ => ?_) | refine Fr_bnd (fun _ => ?_) | refine Fr_bd ?_ (fun _ _ => ?_) | apply frd_X5_firstMeeting_L3 | assumption | decide | intro _)

theorem frd_X3_wasDoomed (p1 : Int32) (M : Mem) : Fr PC M (d_X3_wasDoomed p1 M) := by
  unfold d_X3_wasDoomed
  with_reducible repeat' (first | exact Fr_some | refine Fr_ite ?_ ?_ | refine Fr_chk ?_ | refine Fr_nar ?_ | refine Fr_stk (fun _ _ => ?_) | refine Fr_mup (fun _ hi => PC_s (by assumption) (by decide) hi) (fun _ => ?_) | refine Fr_mup (fun _ hi => PC_s (by decide) (by decide) hi) (fun _ => ?_) | refine Fr_mup (fun _ hi => PC_c (by assumption) (by decide) hi) (fun _ => ?_) | refine Fr_mup (fun _ hi => PC_c (by decide) (by decide) hi) (fun _ => ?_) | refine Fr_mup (fun _ hi => PC_n (by decide) hi) (fun _ => ?_) | refine Fr_mset (fun _ hi => PC_s (by assumption) (by decide) hi) (fun _ => ?_) | refine Fr_mset (fun _ hi => PC_s (by decide) (by decide) hi) (fun _ => ?_) | refine Fr_mset (fun _ hi => PC_c (by assumption) (by decide) hi) (fun _ => ?_) | refine Fr_mset (fun _ hi => PC_c (by decide) (by decide) hi) (fun _ => ?_) | refine Fr_mset (fun _ hi => PC_n (by decide) hi) (fun _ => ?_) | refine Fr_bnd (fun _ => ?_) | refine Fr_bd ?_ (fun _ _ => ?_) | assumption | decide | intro _)

theorem frd_X3_reasonByOthers_B69 (kx1 : Mem → Ans) (kb : Int32 → Mem → Ans) (a1 : Int32) (a2 : Int32) (hx1 : ∀ (M0 : Mem), Fr PC M0 (kx1 M0)) (hb : ∀ (b2 : Int32) (M0 : Mem), Fr PC M0 (kb b2 M0)) (M : Mem) : Fr PC M (d_X3_reasonByOthers_B69 kx1 kb a1 a2 M) := by
  unfold d_X3_reasonByOthers_B69
  with_reducible repeat' (first | exact Fr_some | exact hx1 _ | exact hb _ _ | refine Fr_ite ?_ ?_ | refine Fr_chk ?_ | refine Fr_nar ?_ | refine Fr_stk (fun _ _ => ?_) | refine Fr_mup (fun _ hi => PC_s (by assumption) (by decide) hi) (fun _ => ?_) | refine Fr_mup (fun _ hi => PC_s (by decide) (by decide) hi) (fun _ => ?_) | refine Fr_mup (fun _ hi => PC_c (by assumption) (by decide) hi) (fun _ => ?_) | refine Fr_mup (fun _ hi => PC_c (by decide) (by decide) hi) (fun _ => ?_) | refine Fr_mup (fun _ hi => PC_n (by decide) hi) (fun _ => ?_) | refine Fr_mset (fun _ hi => PC_s (by assumption) (by decide) hi) (fun _ => ?_) | refine Fr_mset (fun _ hi => PC_s (by decide) (by decide) hi) (fun _ => ?_) | refine Fr_mset (fun _ hi => PC_c (by assumption) (by decide) hi) (fun _ => ?_) | refine Fr_mset (fun _ hi => PC_c (by decide) (by decide) hi) (fun _ => ?_) | refine Fr_mset (fun _ hi => PC_n (by decide) hi) (fun _ => ?_) | refine Fr_bnd (fun _ => ?_) | refine Fr_bd ?_ (fun _ _ => ?_) | assumption | decide | intro _)

theorem frd_X3_reasonByOthers_L2_body (a1 : Int32) (kx1 : Mem → Ans) (kb : Int32 → Mem → Ans) (a2 : Int32) (hx1 : ∀ (M0 : Mem), Fr PC M0 (kx1 M0)) (hb : ∀ (b2 : Int32) (M0 : Mem), Fr PC M0 (kb b2 M0)) (M : Mem) : Fr PC M (d_X3_reasonByOthers_L2_body a1 kx1 kb a2 M) := by
  unfold d_X3_reasonByOthers_L2_body
  with_reducible repeat' (first | exact Fr_some | exact hx1 _ | exact hb _ _ | refine Fr_ite ?_ ?_ | refine Fr_chk ?_ | refine Fr_nar ?_ | refine Fr_stk (fun _ _ => ?_) | refine Fr_mup (fun _ hi => PC_s (by assumption) (by decide) hi) (fun _ => ?_) | refine Fr_mup (fun _ hi => PC_s (by decide) (by decide) hi) (fun _ => ?_) | refine Fr_mup (fun _ hi => PC_c (by assumption) (by decide) hi) (fun _ => ?_) | refine Fr_mup (fun _ hi => PC_c (by decide) (by decide) hi) (fun _ => ?_) | refine Fr_mup (fun _ hi => PC_n (by decide) hi) (fun _ => ?_) | refine Fr_mset (fun _ hi => PC_s (by assumption) (by decide) hi) (fun _ => ?_) | refine Fr_mset (fun _ hi => PC_s (by decide) (by decide) hi) (fun _ => ?_) | refine Fr_mset (fun _ hi => PC_c (by assumption) (by decide) hi) (fun _ => ?_) | refine Fr_mset (fun _ hi => PC_c (by decide) (by decide) hi) (fun _ => ?_) | refine Fr_mset (fun _ hi => PC_n (by decide) hi) (fun _ => ?_) | refine Fr_bnd (fun _ => ?_) | refine Fr_bd ?_ (fun _ _ => ?_) | apply frd_X3_reasonByOthers_B69 | apply frd_X3_wasDoomed | assumption | decide | intro _)

theorem frd_X3_reasonByOthers_L2 (a1 : Int32) (kx1 : Mem → Ans) (hx1 : ∀ (M0 : Mem), Fr PC M0 (kx1 M0)) : ∀ (n : Nat) (a2 : Int32) (M : Mem), Fr PC M (d_X3_reasonByOthers_L2 a1 kx1 n a2 M) := by
  intro n
  induction n with
  | zero => intro a2 M; exact Fr_none
  | succ n ih => intro a2 M; exact frd_X3_reasonByOthers_L2_body a1 kx1 _ a2 hx1 ih M

theorem frd_X3_reasonByOthers (p1 : Int32) (M : Mem) : Fr PC M (d_X3_reasonByOthers p1 M) := by
  unfold d_X3_reasonByOthers
  with_reducible repeat' (first | exact Fr_some | refine Fr_ite ?_ ?_ | refine Fr_chk ?_ | refine Fr_nar ?_ | refine Fr_stk (fun _ _ => ?_) | refine Fr_mup (fun _ hi => PC_s (by assumption) (by decide) hi) (fun _ => ?_) | refine Fr_mup (fun _ hi => PC_s (by decide) (by decide) hi) (fun _ => ?_) | refine Fr_mup (fun _ hi => PC_c (by assumption) (by decide) hi) (fun _ => ?_) | refine Fr_mup (fun _ hi => PC_c (by decide) (by decide) hi) (fun _ => ?_) | refine Fr_mup (fun _ hi => PC_n (by decide) hi) (fun _ => ?_) | refine Fr_mset (fun _ hi => PC_s (by assumption) (by decide) hi) (fun _ => ?_) | refine Fr_mset (fun _ hi => PC_s (by decide) (by decide) hi) (fun _ => ?_) | refine Fr_mset (fun _ hi => PC_c (by assumption) (by decide) hi) (fun _ => ?_) | refine Fr_mset (fun _ hi => PC_c (by decide) (by decide) hi) (fun _ => ?_) | refine Fr_mset (fun _ hi => PC_n (by decide) hi) (fun _ => ?_) | refine Fr_bnd (fun _ => ?_) | refine Fr_bd ?_ (fun _ _ => ?_) | apply frd_X3_reasonByOthers_L2 | assumption | decide | intro _)

theorem frd_X3_reasonNow_B111 (q1 : Nat) (a2 : Int32) (hq1 : q1 < 7) (M : Mem) : Fr PC M (d_X3_reasonNow_B111 q1 a2 M) := by
  unfold d_X3_reasonNow_B111
  with_reducible repeat' (first | exact Fr_some | refine Fr_ite ?_ ?_ | refine Fr_chk ?_ | refine Fr_nar ?_ | refine Fr_stk (fun _ _ => ?_) | refine Fr_mup (fun _ hi => PC_s (by assumption) (by decide) hi) (fun _ => ?_) | refine Fr_mup (fun _ hi => PC_s (by decide) (by decide) hi) (fun _ => ?_) | refine Fr_mup (fun _ hi => PC_c (by assumption) (by decide) hi) (fun _ => ?_) | refine Fr_mup (fun _ hi => PC_c (by decide) (by decide) hi) (fun _ => ?_) | refine Fr_mup (fun _ hi => PC_n (by decide) hi) (fun _ => ?_) | refine Fr_mset (fun _ hi => PC_s (by assumption) (by decide) hi) (fun _ => ?_) | refine Fr_mset (fun _ hi => PC_s (by decide) (by decide) hi) (fun _ => ?_) | refine Fr_mset (fun _ hi => PC_c (by assumption) (by decide) hi) (fun _ => ?_) | refine Fr_mset (fun _ hi => PC_c (by decide) (by decide) hi) (fun _ => ?_) | refine Fr_mset (fun _ hi => PC_n (by decide) hi) (fun _ => ?_) | refine Fr_bnd (fun _ => ?_) | refine Fr_bd ?_ (fun _ _ => ?_) | apply frd_X3_reasonByOthers | assumption | decide | intro _)

theorem frd_X3_reasonNow (q1 : Nat) (p2 : Int32) (p3 : Int32) (p4 : Int32) (p5 : Int32) (hq1 : q1 < 7) (M : Mem) : Fr PC M (d_X3_reasonNow q1 p2 p3 p4 p5 M) := by
  unfold d_X3_reasonNow
  with_reducible repeat' (first | exact Fr_some | refine Fr_ite ?_ ?_ | refine Fr_chk ?_ | refine Fr_nar ?_ | refine Fr_stk (fun _ _ => ?_) | refine Fr_mup (fun _ hi => PC_s (by assumption) (by decide) hi) (fun _ => ?_) | refine Fr_mup (fun _ hi => PC_s (by decide) (by decide) hi) (fun _ => ?_) | refine Fr_mup (fun _ hi => PC_c (by assumption) (by decide) hi) (fun _ => ?_) | refine Fr_mup (fun _ hi => PC_c (by decide) (by decide) hi) (fun _ => ?_) | refine Fr_mup (fun _ hi => PC_n (by decide) hi) (fun _ => ?_) | refine Fr_mset (fun _ hi => PC_s (by assumption) (by decide) hi) (fun _ => ?_) | refine Fr_mset (fun _ hi => PC_s (by decide) (by decide) hi) (fun _ => ?_) | refine Fr_mset (fun _ hi => PC_c (by assumption) (by decide) hi) (fun _ => ?_) | refine Fr_mset (fun _ hi => PC_c (by decide) (by decide) hi) (fun _ => ?_) | refine Fr_mset (fun _ hi => PC_n (by decide) hi) (fun _ => ?_) | refine Fr_bnd (fun _ => ?_) | refine Fr_bd ?_ (fun _ _ => ?_) | apply frd_X4_lastBusy | apply frd_X5_firstMeeting | apply frd_X1_beginWith | apply frd_X1_passToEnd | apply frd_X1_rowOf | apply frd_X3_reasonNow_B111 | assumption | decide | intro _)

theorem frd_X3_reasonAgainst (q1 : Nat) (p2 : Int32) (p3 : Int32) (p4 : Int32) (p5 : Int32) (hq1 : q1 < 7) (M : Mem) : Fr PC M (d_X3_reasonAgainst q1 p2 p3 p4 p5 M) := by
  unfold d_X3_reasonAgainst
  with_reducible repeat' (first | exact Fr_some | refine Fr_ite ?_ ?_ | refine Fr_chk ?_ | refine Fr_nar ?_ | refine Fr_stk (fun _ _ => ?_) | refine Fr_mup (fun _ hi => PC_s (by assumption) (by decide) hi) (fun _ => ?_) | refine Fr_mup (fun _ hi => PC_s (by decide) (by decide) hi) (fun _ => ?_) | refine Fr_mup (fun _ hi => PC_c (by assumption) (by decide) hi) (fun _ => ?_) | refine Fr_mup (fun _ hi => PC_c (by decide) (by decide) hi) (fun _ => ?_) | refine Fr_mup (fun _ hi => PC_n (by decide) hi) (fun _ => ?_) | refine Fr_mset (fun _ hi => PC_s (by assumption) (by decide) hi) (fun _ => ?_) | refine Fr_mset (fun _ hi => PC_s (by decide) (by decide) hi) (fun _ => ?_) | refine Fr_mset (fun _ hi => PC_c (by assumption) (by decide) hi) (fun _ => ?_) | refine Fr_mset (fun _ hi => PC_c (by decide) (by decide) hi) (fun _ => ?_) | refine Fr_mset (fun _ hi => PC_n (by decide) hi) (fun _ => ?_) | refine Fr_bnd (fun _ => ?_) | refine Fr_bd ?_ (fun _ _ => ?_) | apply frd_X3_forecastWithout | apply frd_X3_reasonNow | assumption | decide | intro _)

theorem frd_X3_firstFit_L37_body (q1 : Nat) (a2 : Int32) (a3 : Int32) (a4 : Int32) (a8 : Int32) (kx1 : Mem → Ans) (kb : Int32 → Mem → Ans) (a9 : Int32) (hq1 : q1 < 7) (hx1 : ∀ (M0 : Mem), Fr PC M0 (kx1 M0)) (hb : ∀ (b9 : Int32) (M0 : Mem), Fr PC M0 (kb b9 M0)) (M : Mem) : Fr PC M (d_X3_firstFit_L37_body q1 a2 a3 a4 a8 kx1 kb a9 M) := by
  unfold d_X3_firstFit_L37_body
  with_reducible repeat' (first | exact Fr_some | exact hx1 _ | exact hb _ _ | refine Fr_ite ?_ ?_ | refine Fr_chk ?_ | refine Fr_nar ?_ | refine Fr_stk (fun _ _ => ?_) | refine Fr_mup (fun _ hi => PC_s (by assumption) (by decide) hi) (fun _ => ?_) | refine Fr_mup (fun _ hi => PC_s (by decide) (by decide) hi) (fun _ => ?_) | refine Fr_mup (fun _ hi => PC_c (by assumption) (by decide) hi) (fun _ => ?_) | refine Fr_mup (fun _ hi => PC_c (by decide) (by decide) hi) (fun _ => ?_) | refine Fr_mup (fun _ hi => PC_n (by decide) hi) (fun _ => ?_) | refine Fr_mset (fun _ hi => PC_s (by assumption) (by decide) hi) (fun _ => ?_) | refine Fr_mset (fun _ hi => PC_s (by decide) (by decide) hi) (fun _ => ?_) | refine Fr_mset (fun _ hi => PC_c (by assumption) (by decide) hi) (fun _ => ?_) | refine Fr_mset (fun _ hi => PC_c (by decide) (by decide) hi) (fun _ => ?_) | refine Fr_mset (fun _ hi => PC_n (by decide) hi) (fun _ => ?_) | refine Fr_bnd (fun _ => ?_) | refine Fr_bd ?_ (fun _ _ => ?_) | apply frd_X3_reasonNow | assumption | decide | intro _)

theorem frd_X3_firstFit_L37 (q1 : Nat) (a2 : Int32) (a3 : Int32) (a4 : Int32) (a8 : Int32) (kx1 : Mem → Ans) (hq1 : q1 < 7) (hx1 : ∀ (M0 : Mem), Fr PC M0 (kx1 M0)) : ∀ (n : Nat) (a9 : Int32) (M : Mem), Fr PC M (d_X3_firstFit_L37 q1 a2 a3 a4 a8 kx1 n a9 M) := by
  intro n
  induction n with
  | zero => intro a9 M; exact Fr_none
  | succ n ih => intro a9 M; exact frd_X3_firstFit_L37_body q1 a2 a3 a4 a8 kx1 _ a9 hq1 hx1 ih M

theorem frd_X3_firstFit (q1 : Nat) (p2 : Int32) (p3 : Int32) (p4 : Int32) (p5 : Int32) (p6 : Int32) (hq1 : q1 < 7) (M : Mem) : Fr PC M (d_X3_firstFit q1 p2 p3 p4 p5 p6 M) := by
  unfold d_X3_firstFit
  with_reducible repeat' (first | exact Fr_some | refine Fr_ite ?_ ?_ | refine Fr_chk ?_ | refine Fr_nar ?_ | refine Fr_stk (fun _ _ => ?_) | refine Fr_mup (fun _ hi => PC_s (by assumption) (by decide) hi) (fun _ => ?_) | refine Fr_mup (fun _ hi => PC_s (by decide) (by decide) hi) (fun _ => ?_) | refine Fr_mup (fun _ hi => PC_c (by assumption) (by decide) hi) (fun _ => ?_) | refine Fr_mup (fun _ hi => PC_c (by decide) (by decide) hi) (fun _ => ?_) | refine Fr_mup (fun _ hi => PC_n (by decide) hi) (fun _ => ?_) | refine Fr_mset (fun _ hi => PC_s (by assumption) (by decide) hi) (fun _ => ?_) | refine Fr_mset (fun _ hi => PC_s (by decide) (by decide) hi) (fun _ => ?_) | refine Fr_mset (fun _ hi => PC_c (by assumption) (by decide) hi) (fun _ => ?_) | refine Fr_mset (fun _ hi => PC_c (by decide) (by decide) hi) (fun _ => ?_) | refine Fr_mset (fun _ hi => PC_n (by decide) hi) (fun _ => ?_) | refine Fr_bnd (fun _ => ?_) | refine Fr_bd ?_ (fun _ _ => ?_) | apply frd_X3_forecastWithout | apply frd_X3_firstFit_L37 | assumption | decide | intro _)

theorem frd_X4_append (q0 : Nat) (p1 : Int32) (p2 : Int32) (p3 : Int32) (p4 : Int32) (hq0 : q0 < 7) (M : Mem) : Fr PC M (d_X4_append q0 p1 p2 p3 p4 M) := by
  unfold d_X4_append
  with_reducible repeat' (first | exact Fr_some | refine Fr_ite ?_ ?_ | refine Fr_chk ?_ | refine Fr_nar ?_ | refine Fr_stk (fun _ _ => ?_) | refine Fr_mup (fun _ hi => PC_s (by assumption) (by decide) hi) (fun _ => ?_) | refine Fr_mup (fun _ hi => PC_s (by decide) (by decide) hi) (fun _ => ?_) | refine Fr_mup (fun _ hi => PC_c (by assumption) (by decide) hi) (fun _ => ?_) | refine Fr_mup (fun _ hi => PC_c (by decide) (by decide) hi) (fun _ => ?_) | refine Fr_mup (fun _ hi => PC_n (by decide) hi) (fun _ => ?_) | refine Fr_mset (fun _ hi => PC_s (by assumption) (by decide) hi) (fun _ => ?_) | refine Fr_mset (fun _ hi => PC_s (by decide) (by decide) hi) (fun _ => ?_) | refine Fr_mset (fun _ hi => PC_c (by assumption) (by decide) hi) (fun _ => ?_) | refine Fr_mset (fun _ hi => PC_c (by decide) (by decide) hi) (fun _ => ?_) | refine Fr_mset (fun _ hi => PC_n (by decide) hi) (fun _ => ?_) | refine Fr_bnd (fun _ => ?_) | refine Fr_bd ?_ (fun _ _ => ?_) | assumption | decide | intro _)

theorem frd_X5_canStart (q0 : Nat) (p1 : Int32) (hq0 : q0 < 7) (M : Mem) : Fr PC M (d_X5_canStart q0 p1 M) := by
  unfold d_X5_canStart
  with_reducible repeat' (first | exact Fr_some | refine Fr_ite ?_ ?_ | refine Fr_chk ?_ | refine Fr_nar ?_ | refine Fr_stk (fun _ _ => ?_) | refine Fr_mup (fun _ hi => PC_s (by assumption) (by decide) hi) (fun _ => ?_) | refine Fr_mup (fun _ hi => PC_s (by decide) (by decide) hi) (fun _ => ?_) | refine Fr_mup (fun _ hi => PC_c (by assumption) (by decide) hi) (fun _ => ?_) | refine Fr_mup (fun _ hi => PC_c (by decide) (by decide) hi) (fun _ => ?_) | refine Fr_mup (fun _ hi => PC_n (by decide) hi) (fun _ => ?_) | refine Fr_mset (fun _ hi => PC_s (by assumption) (by decide) hi) (fun _ => ?_) | refine Fr_mset (fun _ hi => PC_s (by decide) (by decide) hi) (fun _ => ?_) | refine Fr_mset (fun _ hi => PC_c (by assumption) (by decide) hi) (fun _ => ?_) | refine Fr_mset (fun _ hi => PC_c (by decide) (by decide) hi) (fun _ => ?_) | refine Fr_mset (fun _ hi => PC_n (by decide) hi) (fun _ => ?_) | refine Fr_bnd (fun _ => ?_) | refine Fr_bd ?_ (fun _ _ => ?_) | assumption | decide | intro _)

theorem frd_X5_isBusyIn (q0 : Nat) (p1 : Int32) (p2 : Int32) (hq0 : q0 < 7) (M : Mem) : Fr PC M (d_X5_isBusyIn q0 p1 p2 M) := by
  unfold d_X5_isBusyIn
  with_reducible repeat' (first | exact Fr_some | refine Fr_ite ?_ ?_ | refine Fr_chk ?_ | refine Fr_nar ?_ | refine Fr_stk (fun _ _ => ?_) | refine Fr_mup (fun _ hi => PC_s (by assumption) (by decide) hi) (fun _ => ?_) | refine Fr_mup (fun _ hi => PC_s (by decide) (by decide) hi) (fun _ => ?_) | refine Fr_mup (fun _ hi => PC_c (by assumption) (by decide) hi) (fun _ => ?_) | refine Fr_mup (fun _ hi => PC_c (by decide) (by decide) hi) (fun _ => ?_) | refine Fr_mup (fun _ hi => PC_n (by decide) hi) (fun _ => ?_) | refine Fr_mset (fun _ hi => PC_s (by assumption) (by decide) hi) (fun _ => ?_) | refine Fr_mset (fun _ hi => PC_s (by decide) (by decide) hi) (fun _ => ?_) | refine Fr_mset (fun _ hi => PC_c (by assumption) (by decide) hi) (fun _ => ?_) | refine Fr_mset (fun _ hi => PC_c (by decide) (by decide) hi) (fun _ => ?_) | refine Fr_mset (fun _ hi => PC_n (by decide) hi) (fun _ => ?_) | refine Fr_bnd (fun _ => ?_) | refine Fr_bd ?_ (fun _ _ => ?_) | apply frd_X5_firstMeeting | assumption | decide | intro _)

theorem frd_X5_firstFreeTick_L2_body (q0 : Nat) (a1 : Int32) (kx1 : Mem → Ans) (kb : Int32 → Mem → Ans) (a2 : Int32) (hq0 : q0 < 7) (hx1 : ∀ (M0 : Mem), Fr PC M0 (kx1 M0)) (hb : ∀ (b2 : Int32) (M0 : Mem), Fr PC M0 (kb b2 M0)) (M : Mem) : Fr PC M (d_X5_firstFreeTick_L2_body q0 a1 kx1 kb a2 M) := by
  unfold d_X5_firstFreeTick_L2_body
  with_reducible repeat' (first | exact Fr_some | exact hx1 _ | exact hb _ _ | refine Fr_ite ?_ ?_ | refine Fr_chk ?_ | refine Fr_nar ?_ | refine Fr_stk (fun _ _ => ?_) | refine Fr_mup (fun _ hi => PC_s (by assumption) (by decide) hi) (fun _ => ?_) | refine Fr_mup (fun _ hi => PC_s (by decide) (by decide) hi) (fun _ => ?_) | refine Fr_mup (fun _ hi => PC_c (by assumption) (by decide) hi) (fun _ => ?_) | refine Fr_mup (fun _ hi => PC_c (by decide) (by decide) hi) (fun _ => ?_) | refine Fr_mup (fun _ hi => PC_n (by decide) hi) (fun _ => ?_) | refine Fr_mset (fun _ hi => PC_s (by assumption) (by decide) hi) (fun _ => ?_) | refine Fr_mset (fun _ hi => PC_s (by decide) (by decide) hi) (fun _ => ?_) | refine Fr_mset (fun _ hi => PC_c (by assumption) (by decide) hi) (fun _ => ?_) | refine Fr_mset (fun _ hi => PC_c (by decide) (by decide) hi) (fun _ => ?_) | refine Fr_mset (fun _ hi => PC_n (by decide) hi) (fun _ => ?_) | refine Fr_bnd (fun _ => ?_) | refine Fr_bd ?_ (fun _ _ => ?_) | apply frd_X5_isBusyIn | assumption | decide | intro _)

theorem frd_X5_firstFreeTick_L2 (q0 : Nat) (a1 : Int32) (kx1 : Mem → Ans) (hq0 : q0 < 7) (hx1 : ∀ (M0 : Mem), Fr PC M0 (kx1 M0)) : ∀ (n : Nat) (a2 : Int32) (M : Mem), Fr PC M (d_X5_firstFreeTick_L2 q0 a1 kx1 n a2 M) := by
  intro n
  induction n with
  | zero => intro a2 M; exact Fr_none
  | succ n ih => intro a2 M; exact frd_X5_firstFreeTick_L2_body q0 a1 kx1 _ a2 hq0 hx1 ih M

theorem frd_X5_firstFreeTick (q0 : Nat) (p1 : Int32) (hq0 : q0 < 7) (M : Mem) : Fr PC M (d_X5_firstFreeTick q0 p1 M) := by
  unfold d_X5_firstFreeTick
  with_reducible repeat' (first | exact Fr_some | refine Fr_ite ?_ ?_ | refine Fr_chk ?_ | refine Fr_nar ?_ | refine Fr_stk (fun _ _ => ?_) | refine Fr_mup (fun _ hi => PC_s (by assumption) (by decide) hi) (fun _ => ?_) | refine Fr_mup (fun _ hi => PC_s (by decide) (by decide) hi) (fun _ => ?_) | refine Fr_mup (fun _ hi => PC_c (by assumption) (by decide) hi) (fun _ => ?_) | refine Fr_mup (fun _ hi => PC_c (by decide) (by decide) hi) (fun _ => ?_) | refine Fr_mup (fun _ hi => PC_n (by decide) hi) (fun _ => ?_) | refine Fr_mset (fun _ hi => PC_s (by assumption) (by decide) hi) (fun _ => ?_) | refine Fr_mset (fun _ hi => PC_s (by decide) (by decide) hi) (fun _ => ?_) | refine Fr_mset (fun _ hi => PC_c (by assumption) (by decide) hi) (fun _ => ?_) | refine Fr_mset (fun _ hi => PC_c (by decide) (by decide) hi) (fun _ => ?_) | refine Fr_mset (fun _ hi => PC_n (by decide) hi) (fun _ => ?_) | refine Fr_bnd (fun _ => ?_) | refine Fr_bd ?_ (fun _ _ => ?_) | apply frd_X5_firstFreeTick_L2 | assumption | decide | intro _)

theorem frd_X6_append (p1 : Int32) (M : Mem) : Fr PC M (d_X6_append p1 M) := by
  unfold d_X6_append
  with_reducible repeat' (first | exact Fr_some | refine Fr_ite ?_ ?_ | refine Fr_chk ?_ | refine Fr_nar ?_ | refine Fr_stk (fun _ _ => ?_) | refine Fr_mup (fun _ hi => PC_s (by assumption) (by decide) hi) (fun _ => ?_) | refine Fr_mup (fun _ hi => PC_s (by decide) (by decide) hi) (fun _ => ?_) | refine Fr_mup (fun _ hi => PC_c (by assumption) (by decide) hi) (fun _ => ?_) | refine Fr_mup (fun _ hi => PC_c (by decide) (by decide) hi) (fun _ => ?_) | refine Fr_mup (fun _ hi => PC_n (by decide) hi) (fun _ => ?_) | refine Fr_mset (fun _ hi => PC_s (by assumption) (by decide) hi) (fun _ => ?_) | refine Fr_mset (fun _ hi => PC_s (by decide) (by decide) hi) (fun _ => ?_) | refine Fr_mset (fun _ hi => PC_c (by assumption) (by decide) hi) (fun _ => ?_) | refine Fr_mset (fun _ hi => PC_c (by decide) (by decide) hi) (fun _ => ?_) | refine Fr_mset (fun _ hi => PC_n (by decide) hi) (fun _ => ?_) | refine Fr_bnd (fun _ => ?_) | refine Fr_bd ?_ (fun _ _ => ?_) | assumption | decide | intro _)

theorem frd_X6_current (M : Mem) : Fr PC M (d_X6_current M) := by
  unfold d_X6_current
  with_reducible repeat' (first | exact Fr_some | refine Fr_ite ?_ ?_ | refine Fr_chk ?_ | refine Fr_nar ?_ | refine Fr_stk (fun _ _ => ?_) | refine Fr_mup (fun _ hi => PC_s (by assumption) (by decide) hi) (fun _ => ?_) | refine Fr_mup (fun _ hi => PC_s (by decide) (by decide) hi) (fun _ => ?_) | refine Fr_mup (fun _ hi => PC_c (by assumption) (by decide) hi) (fun _ => ?_) | refine Fr_mup (fun _ hi => PC_c (by decide) (by decide) hi) (fun _ => ?_) | refine Fr_mup (fun _ hi => PC_n (by decide) hi) (fun _ => ?_) | refine Fr_mset (fun _ hi => PC_s (by assumption) (by decide) hi) (fun _ => ?_) | refine Fr_mset (fun _ hi => PC_s (by decide) (by decide) hi) (fun _ => ?_) | refine Fr_mset (fun _ hi => PC_c (by assumption) (by decide) hi) (fun _ => ?_) | refine Fr_mset (fun _ hi => PC_c (by decide) (by decide) hi) (fun _ => ?_) | refine Fr_mset (fun _ hi => PC_n (by decide) hi) (fun _ => ?_) | refine Fr_bnd (fun _ => ?_) | refine Fr_bd ?_ (fun _ _ => ?_) | assumption | decide | intro _)

theorem frd_X6_isDigit (M : Mem) : Fr PC M (d_X6_isDigit M) := by
  unfold d_X6_isDigit
  with_reducible repeat' (first | exact Fr_some | refine Fr_ite ?_ ?_ | refine Fr_chk ?_ | refine Fr_nar ?_ | refine Fr_stk (fun _ _ => ?_) | refine Fr_mup (fun _ hi => PC_s (by assumption) (by decide) hi) (fun _ => ?_) | refine Fr_mup (fun _ hi => PC_s (by decide) (by decide) hi) (fun _ => ?_) | refine Fr_mup (fun _ hi => PC_c (by assumption) (by decide) hi) (fun _ => ?_) | refine Fr_mup (fun _ hi => PC_c (by decide) (by decide) hi) (fun _ => ?_) | refine Fr_mup (fun _ hi => PC_n (by decide) hi) (fun _ => ?_) | refine Fr_mset (fun _ hi => PC_s (by assumption) (by decide) hi) (fun _ => ?_) | refine Fr_mset (fun _ hi => PC_s (by decide) (by decide) hi) (fun _ => ?_) | refine Fr_mset (fun _ hi => PC_c (by assumption) (by decide) hi) (fun _ => ?_) | refine Fr_mset (fun _ hi => PC_c (by decide) (by decide) hi) (fun _ => ?_) | refine Fr_mset (fun _ hi => PC_n (by decide) hi) (fun _ => ?_) | refine Fr_bnd (fun _ => ?_) | refine Fr_bd ?_ (fun _ _ => ?_) | apply frd_X6_current | assumption | decide | intro _)

theorem frd_X6_takeDigit (M : Mem) : Fr PC M (d_X6_takeDigit M) := by
  unfold d_X6_takeDigit
  with_reducible repeat' (first | exact Fr_some | refine Fr_ite ?_ ?_ | refine Fr_chk ?_ | refine Fr_nar ?_ | refine Fr_stk (fun _ _ => ?_) | refine Fr_mup (fun _ hi => PC_s (by assumption) (by decide) hi) (fun _ => ?_) | refine Fr_mup (fun _ hi => PC_s (by decide) (by decide) hi) (fun _ => ?_) | refine Fr_mup (fun _ hi => PC_c (by assumption) (by decide) hi) (fun _ => ?_) | refine Fr_mup (fun _ hi => PC_c (by decide) (by decide) hi) (fun _ => ?_) | refine Fr_mup (fun _ hi => PC_n (by decide) hi) (fun _ => ?_) | refine Fr_mset (fun _ hi => PC_s (by assumption) (by decide) hi) (fun _ => ?_) | refine Fr_mset (fun _ hi => PC_s (by decide) (by decide) hi) (fun _ => ?_) | refine Fr_mset (fun _ hi => PC_c (by assumption) (by decide) hi) (fun _ => ?_) | refine Fr_mset (fun _ hi => PC_c (by decide) (by decide) hi) (fun _ => ?_) | refine Fr_mset (fun _ hi => PC_n (by decide) hi) (fun _ => ?_) | refine Fr_bnd (fun _ => ?_) | refine Fr_bd ?_ (fun _ _ => ?_) | apply frd_X6_current | assumption | decide | intro _)

theorem frd_X6_skip (p1 : Int32) (M : Mem) : Fr PC M (d_X6_skip p1 M) := by
  unfold d_X6_skip
  with_reducible repeat' (first | exact Fr_some | refine Fr_ite ?_ ?_ | refine Fr_chk ?_ | refine Fr_nar ?_ | refine Fr_stk (fun _ _ => ?_) | refine Fr_mup (fun _ hi => PC_s (by assumption) (by decide) hi) (fun _ => ?_) | refine Fr_mup (fun _ hi => PC_s (by decide) (by decide) hi) (fun _ => ?_) | refine Fr_mup (fun _ hi => PC_c (by assumption) (by decide) hi) (fun _ => ?_) | refine Fr_mup (fun _ hi => PC_c (by decide) (by decide) hi) (fun _ => ?_) | refine Fr_mup (fun _ hi => PC_n (by decide) hi) (fun _ => ?_) | refine Fr_mset (fun _ hi => PC_s (by assumption) (by decide) hi) (fun _ => ?_) | refine Fr_mset (fun _ hi => PC_s (by decide) (by decide) hi) (fun _ => ?_) | refine Fr_mset (fun _ hi => PC_c (by assumption) (by decide) hi) (fun _ => ?_) | refine Fr_mset (fun _ hi => PC_c (by decide) (by decide) hi) (fun _ => ?_) | refine Fr_mset (fun _ hi => PC_n (by decide) hi) (fun _ => ?_) | refine Fr_bnd (fun _ => ?_) | refine Fr_bd ?_ (fun _ _ => ?_) | apply frd_X6_current | assumption | decide | intro _)

theorem frd_X6_takeStart_L13_body (kx1 : Int32 → Mem → Ans) (kb : Int32 → Int32 → Mem → Ans) (a1 : Int32) (a2 : Int32) (hx1 : ∀ (b1 : Int32) (M0 : Mem), Fr PC M0 (kx1 b1 M0)) (hb : ∀ (b1 : Int32) (b2 : Int32) (M0 : Mem), Fr PC M0 (kb b1 b2 M0)) (M : Mem) : Fr PC M (d_X6_takeStart_L13_body kx1 kb a1 a2 M) := by
  unfold d_X6_takeStart_L13_body
  with_reducible repeat' (first | exact Fr_some | exact hx1 _ _ | exact hb _ _ _ | refine Fr_ite ?_ ?_ | refine Fr_chk ?_ | refine Fr_nar ?_ | refine Fr_stk (fun _ _ => ?_) | refine Fr_mup (fun _ hi => PC_s (by assumption) (by decide) hi) (fun _ => ?_) | refine Fr_mup (fun _ hi => PC_s (by decide) (by decide) hi) (fun _ => ?_) | refine Fr_mup (fun _ hi => PC_c (by assumption) (by decide) hi) (fun _ => ?_) | refine Fr_mup (fun _ hi => PC_c (by decide) (by decide) hi) (fun _ => ?_) | refine Fr_mup (fun _ hi => PC_n (by decide) hi) (fun _ => ?_) | refine Fr_mset (fun _ hi => PC_s (by assumption) (by decide) hi) (fun _ => ?_) | refine Fr_mset (fun _ hi => PC_s (by decide) (by decide) hi) (fun _ => ?_) | refine Fr_mset (fun _ hi => PC_c (by assumption) (by decide) hi) (fun _ => ?_) | refine Fr_mset (fun _ hi => PC_c (by decide) (by decide) hi) (fun _ => ?_) | refine Fr_mset (fun _ hi => PC_n (by decide) hi) (fun _ => ?_) | refine Fr_bnd (fun _ => ?_) | refine Fr_bd ?_ (fun _ _ => ?_) | apply frd_X6_isDigit | apply frd_X6_takeDigit | assumption | decide | intro _)

theorem frd_X6_takeStart_L13 (kx1 : Int32 → Mem → Ans) (hx1 : ∀ (b1 : Int32) (M0 : Mem), Fr PC M0 (kx1 b1 M0)) : ∀ (n : Nat) (a1 : Int32) (a2 : Int32) (M : Mem), Fr PC M (d_X6_takeStart_L13 kx1 n a1 a2 M) := by
  intro n
  induction n with
  | zero => intro a1 a2 M; exact Fr_none
  | succ n ih => intro a1 a2 M; exact frd_X6_takeStart_L13_body kx1 _ a1 a2 hx1 ih M

theorem frd_X6_takeStart (M : Mem) : Fr PC M (d_X6_takeStart M) := by
  unfold d_X6_takeStart
  with_reducible repeat' (first | exact Fr_some | refine Fr_ite ?_ ?_ | refine Fr_chk ?_ | refine Fr_nar ?_ | refine Fr_stk (fun _ _ => ?_) | refine Fr_mup (fun _ hi => PC_s (by assumption) (by decide) hi) (fun _ => ?_) | refine Fr_mup (fun _ hi => PC_s (by decide) (by decide) hi) (fun _ => ?_) | refine Fr_mup (fun _ hi => PC_c (by assumption) (by decide) hi) (fun _ => ?_) | refine Fr_mup (fun _ hi => PC_c (by decide) (by decide) hi) (fun _ => ?_) | refine Fr_mup (fun _ hi => PC_n (by decide) hi) (fun _ => ?_) | refine Fr_mset (fun _ hi => PC_s (by assumption) (by decide) hi) (fun _ => ?_) | refine Fr_mset (fun _ hi => PC_s (by decide) (by decide) hi) (fun _ => ?_) | refine Fr_mset (fun _ hi => PC_c (by assumption) (by decide) hi) (fun _ => ?_) | refine Fr_mset (fun _ hi => PC_c (by decide) (by decide) hi) (fun _ => ?_) | refine Fr_mset (fun _ hi => PC_n (by decide) hi) (fun _ => ?_) | refine Fr_bnd (fun _ => ?_) | refine Fr_bd ?_ (fun _ _ => ?_) | apply frd_X6_takeDigit | apply frd_X6_takeStart_L13 | assumption | decide | intro _)

theorem frd_X6_readEntry (p1 : Int32) (M : Mem) : Fr PC M (d_X6_readEntry p1 M) := by
  unfold d_X6_readEntry
  with_reducible repeat' (first | exact Fr_some | refine Fr_ite ?_ ?_ | refine Fr_chk ?_ | refine Fr_nar ?_ | refine Fr_stk (fun _ _ => ?_) | refine Fr_mup (fun _ hi => PC_s (by assumption) (by decide) hi) (fun _ => ?_) | refine Fr_mup (fun _ hi => PC_s (by decide) (by decide) hi) (fun _ => ?_) | refine Fr_mup (fun _ hi => PC_c (by assumption) (by decide) hi) (fun _ => ?_) | refine Fr_mup (fun _ hi => PC_c (by decide) (by decide) hi) (fun _ => ?_) | refine Fr_mup (fun _ hi => PC_n (by decide) hi) (fun _ => ?_) | refine Fr_mset (fun _ hi => PC_s (by assumption) (by decide) hi) (fun _ => ?_) | refine Fr_mset (fun _ hi => PC_s (by decide) (by decide) hi) (fun _ => ?_) | refine Fr_mset (fun _ hi => PC_c (by assumption) (by decide) hi) (fun _ => ?_) | refine Fr_mset (fun _ hi => PC_c (by decide) (by decide) hi) (fun _ => ?_) | refine Fr_mset (fun _ hi => PC_n (by decide) hi) (fun _ => ?_) | refine Fr_bnd (fun _ => ?_) | refine Fr_bd ?_ (fun _ _ => ?_) | apply frd_X6_isDigit | apply frd_X6_takeDigit | apply frd_X6_skip | apply frd_X6_takeStart | assumption | decide | intro _)

theorem frd_X6_read_L12_body (kx1 : Mem → Ans) (kb : Int32 → Mem → Ans) (a1 : Int32) (hx1 : ∀ (M0 : Mem), Fr PC M0 (kx1 M0)) (hb : ∀ (b1 : Int32) (M0 : Mem), Fr PC M0 (kb b1 M0)) (M : Mem) : Fr PC M (d_X6_read_L12_body kx1 kb a1 M) := by
  unfold d_X6_read_L12_body
  with_reducible repeat' (first | exact Fr_some | exact hx1 _ | exact hb _ _ | refine Fr_ite ?_ ?_ | refine Fr_chk ?_ | refine Fr_nar ?_ | refine Fr_stk (fun _ _ => ?_) | refine Fr_mup (fun _ hi => PC_s (by assumption) (by decide) hi) (fun _ => ?_) | refine Fr_mup (fun _ hi => PC_s (by decide) (by decide) hi) (fun _ => ?_) | refine Fr_mup (fun _ hi => PC_c (by assumption) (by decide) hi) (fun _ => ?_) | refine Fr_mup (fun _ hi => PC_c (by decide) (by decide) hi) (fun _ => ?_) | refine Fr_mup (fun _ hi => PC_n (by decide) hi) (fun _ => ?_) | refine Fr_mset (fun _ hi => PC_s (by assumption) (by decide) hi) (fun _ => ?_) | refine Fr_mset (fun _ hi => PC_s (by decide) (by decide) hi) (fun _ => ?_) | refine Fr_mset (fun _ hi => PC_c (by assumption) (by decide) hi) (fun _ => ?_) | refine Fr_mset (fun _ hi => PC_c (by decide) (by decide) hi) (fun _ => ?_) | refine Fr_mset (fun _ hi => PC_n (by decide) hi) (fun _ => ?_) | refine Fr_bnd (fun _ => ?_) | refine Fr_bd ?_ (fun _ _ => ?_) | apply frd_X6_readEntry | apply frd_X6_skip | assumption | decide | intro _)

theorem frd_X6_read_L12 (kx1 : Mem → Ans) (hx1 : ∀ (M0 : Mem), Fr PC M0 (kx1 M0)) : ∀ (n : Nat) (a1 : Int32) (M : Mem), Fr PC M (d_X6_read_L12 kx1 n a1 M) := by
  intro n
  induction n with
  | zero => intro a1 M; exact Fr_none
  | succ n ih => intro a1 M; exact frd_X6_read_L12_body kx1 _ a1 hx1 ih M

theorem frd_X6_read (M : Mem) : Fr PC M (d_X6_read M) := by
  unfold d_X6_read
  with_reducible repeat' (first | exact Fr_some | refine Fr_ite ?_ ?_ | refine Fr_chk ?_ | refine Fr_nar ?_ | refine Fr_stk (fun _ _ => ?_) | refine Fr_mup (fun _ hi => PC_s (by assumption) (by decide) hi) (fun _ => ?_) | refine Fr_mup (fun _ hi => PC_s (by decide) (by decide) hi) (fun _ => ?_) | refine Fr_mup (fun _ hi => PC_c (by assumption) (by decide) hi) (fun _ => ?_) | refine Fr_mup (fun _ hi => PC_c (by decide) (by decide) hi) (fun _ => ?_) | refine Fr_mup (fun _ hi => PC_n (by decide) hi) (fun _ => ?_) | refine Fr_mset (fun _ hi => PC_s (by assumption) (by decide) hi) (fun _ => ?_) | refine Fr_mset (fun _ hi => PC_s (by decide) (by decide) hi) (fun _ => ?_) | refine Fr_mset (fun _ hi => PC_c (by assumption) (by decide) hi) (fun _ => ?_) | refine Fr_mset (fun _ hi => PC_c (by decide) (by decide) hi) (fun _ => ?_) | refine Fr_mset (fun _ hi => PC_n (by decide) hi) (fun _ => ?_) | refine Fr_bnd (fun _ => ?_) | refine Fr_bd ?_ (fun _ _ => ?_) | apply frd_X6_read_L12 | assumption | decide | intro _)

theorem frd_X7_has (q0 : Nat) (p1 : Int32) (hq0 : q0 < 7) (M : Mem) : Fr PC M (d_X7_has q0 p1 M) := by
  unfold d_X7_has
  with_reducible repeat' (first | exact Fr_some | refine Fr_ite ?_ ?_ | refine Fr_chk ?_ | refine Fr_nar ?_ | refine Fr_stk (fun _ _ => ?_) | refine Fr_mup (fun _ hi => PC_s (by assumption) (by decide) hi) (fun _ => ?_) | refine Fr_mup (fun _ hi => PC_s (by decide) (by decide) hi) (fun _ => ?_) | refine Fr_mup (fun _ hi => PC_c (by assumption) (by decide) hi) (fun _ => ?_) | refine Fr_mup (fun _ hi => PC_c (by decide) (by decide) hi) (fun _ => ?_) | refine Fr_mup (fun _ hi => PC_n (by decide) hi) (fun _ => ?_) | refine Fr_mset (fun _ hi => PC_s (by assumption) (by decide) hi) (fun _ => ?_) | refine Fr_mset (fun _ hi => PC_s (by decide) (by decide) hi) (fun _ => ?_) | refine Fr_mset (fun _ hi => PC_c (by assumption) (by decide) hi) (fun _ => ?_) | refine Fr_mset (fun _ hi => PC_c (by decide) (by decide) hi) (fun _ => ?_) | refine Fr_mset (fun _ hi => PC_n (by decide) hi) (fun _ => ?_) | refine Fr_bnd (fun _ => ?_) | refine Fr_bd ?_ (fun _ _ => ?_) | assumption | decide | intro _)

theorem frd_X7_append (q0 : Nat) (p1 : Int32) (p2 : Int32) (p3 : Int32) (hq0 : q0 < 7) (M : Mem) : Fr PC M (d_X7_append q0 p1 p2 p3 M) := by
  unfold d_X7_append
  with_reducible repeat' (first | exact Fr_some | refine Fr_ite ?_ ?_ | refine Fr_chk ?_ | refine Fr_nar ?_ | refine Fr_stk (fun _ _ => ?_) | refine Fr_mup (fun _ hi => PC_s (by assumption) (by decide) hi) (fun _ => ?_) | refine Fr_mup (fun _ hi => PC_s (by decide) (by decide) hi) (fun _ => ?_) | refine Fr_mup (fun _ hi => PC_c (by assumption) (by decide) hi) (fun _ => ?_) | refine Fr_mup (fun _ hi => PC_c (by decide) (by decide) hi) (fun _ => ?_) | refine Fr_mup (fun _ hi => PC_n (by decide) hi) (fun _ => ?_) | refine Fr_mset (fun _ hi => PC_s (by assumption) (by decide) hi) (fun _ => ?_) | refine Fr_mset (fun _ hi => PC_s (by decide) (by decide) hi) (fun _ => ?_) | refine Fr_mset (fun _ hi => PC_c (by assumption) (by decide) hi) (fun _ => ?_) | refine Fr_mset (fun _ hi => PC_c (by decide) (by decide) hi) (fun _ => ?_) | refine Fr_mset (fun _ hi => PC_n (by decide) hi) (fun _ => ?_) | refine Fr_bnd (fun _ => ?_) | refine Fr_bd ?_ (fun _ _ => ?_) | assumption | decide | intro _)

theorem frd_X7_takeOut_L13_body (q0 : Nat) (kx1 : Mem → Ans) (kb : Int32 → Mem → Ans) (a2 : Int32) (hq0 : q0 < 7) (hx1 : ∀ (M0 : Mem), Fr PC M0 (kx1 M0)) (hb : ∀ (b2 : Int32) (M0 : Mem), Fr PC M0 (kb b2 M0)) (M : Mem) : Fr PC M (d_X7_takeOut_L13_body q0 kx1 kb a2 M) := by
  unfold d_X7_takeOut_L13_body
  with_reducible repeat' (first | exact Fr_some | exact hx1 _ | exact hb _ _ | refine Fr_ite ?_ ?_ | refine Fr_chk ?_ | refine Fr_nar ?_ | refine Fr_stk (fun _ _ => ?_) | refine Fr_mup (fun _ hi => PC_s (by assumption) (by decide) hi) (fun _ => ?_) | refine Fr_mup (fun _ hi => PC_s (by decide) (by decide) hi) (fun _ => ?_) | refine Fr_mup (fun _ hi => PC_c (by assumption) (by decide) hi) (fun _ => ?_) | refine Fr_mup (fun _ hi => PC_c (by decide) (by decide) hi) (fun _ => ?_) | refine Fr_mup (fun _ hi => PC_n (by decide) hi) (fun _ => ?_) | refine Fr_mset (fun _ hi => PC_s (by assumption) (by decide) hi) (fun _ => ?_) | refine Fr_mset (fun _ hi => PC_s (by decide) (by decide) hi) (fun _ => ?_) | refine Fr_mset (fun _ hi => PC_c (by assumption) (by decide) hi) (fun _ => ?_) | refine Fr_mset (fun _ hi => PC_c (by decide) (by decide) hi) (fun _ => ?_) | refine Fr_mset (fun _ hi => PC_n (by decide) hi) (fun _ => ?_) | refine Fr_bnd (fun _ => ?_) | refine Fr_bd ?_ (fun _ _ => ?_) | assumption | decide | intro _)

theorem frd_X7_takeOut_L13 (q0 : Nat) (kx1 : Mem → Ans) (hq0 : q0 < 7) (hx1 : ∀ (M0 : Mem), Fr PC M0 (kx1 M0)) : ∀ (n : Nat) (a2 : Int32) (M : Mem), Fr PC M (d_X7_takeOut_L13 q0 kx1 n a2 M) := by
  intro n
  induction n with
  | zero => intro a2 M; exact Fr_none
  | succ n ih => intro a2 M; exact frd_X7_takeOut_L13_body q0 kx1 _ a2 hq0 hx1 ih M

theorem frd_X7_takeOut (q0 : Nat) (p1 : Int32) (hq0 : q0 < 7) (M : Mem) : Fr PC M (d_X7_takeOut q0 p1 M) := by
  unfold d_X7_takeOut
  with_reducible repeat' (first | exact Fr_some | refine Fr_ite ?_ ?_ | refine Fr_chk ?_ | refine Fr_nar ?_ | refine Fr_stk (fun _ _ => ?_) | refine Fr_mup (fun _ hi => PC_s (by assumption) (by decide) hi) (fun _ => ?_) | refine Fr_mup (fun _ hi => PC_s (by decide) (by decide) hi) (fun _ => ?_) | refine Fr_mup (fun _ hi => PC_c (by assumption) (by decide) hi) (fun _ => ?_) | refine Fr_mup (fun _ hi => PC_c (by decide) (by decide) hi) (fun _ => ?_) | refine Fr_mup (fun _ hi => PC_n (by decide) hi) (fun _ => ?_) | refine Fr_mset (fun _ hi => PC_s (by assumption) (by decide) hi) (fun _ => ?_) | refine Fr_mset (fun _ hi => PC_s (by decide) (by decide) hi) (fun _ => ?_) | refine Fr_mset (fun _ hi => PC_c (by assumption) (by decide) hi) (fun _ => ?_) | refine Fr_mset (fun _ hi => PC_c (by decide) (by decide) hi) (fun _ => ?_) | refine Fr_mset (fun _ hi => PC_n (by decide) hi) (fun _ => ?_) | refine Fr_bnd (fun _ => ?_) | refine Fr_bd ?_ (fun _ _ => ?_) | apply frd_X7_has | apply frd_X7_takeOut_L13 | assumption | decide | intro _)

theorem frd_X7_dropUntil_B34 (q0 : Nat) (kx1 : Int32 → Mem → Ans) (kb : Int32 → Int32 → Mem → Ans) (a1 : Int32) (a2 : Int32) (a3 : Int32) (hq0 : q0 < 7) (hx1 : ∀ (b2 : Int32) (M0 : Mem), Fr PC M0 (kx1 b2 M0)) (hb : ∀ (b2 : Int32) (b3 : Int32) (M0 : Mem), Fr PC M0 (kb b2 b3 M0)) (M : Mem) : Fr PC M (d_X7_dropUntil_B34 q0 kx1 kb a1 a2 a3 M) := by
  unfold d_X7_dropUntil_B34
  with_reducible repeat' (first | exact Fr_some | exact hx1 _ _ | exact hb _ _ _ | refine Fr_ite ?_ ?_ | refine Fr_chk ?_ | refine Fr_nar ?_ | refine Fr_stk (fun _ _ => ?_) | refine Fr_mup (fun _ hi => PC_s (by assumption) (by decide) hi) (fun _ => ?_) | refine Fr_mup (fun _ hi => PC_s (by decide) (by decide) hi) (fun _ => ?_) | refine Fr_mup (fun _ hi => PC_c (by assumption) (by decide) hi) (fun _ => ?_) | refine Fr_mup (fun _ hi => PC_c (by decide) (by decide) hi) (fun _ => ?_) | refine Fr_mup (fun _ hi => PC_n (by decide) hi) (fun _ => ?_) | refine Fr_mset (fun _ hi => PC_s (by assumption) (by decide) hi) (fun _ => ?_) | refine Fr_mset (fun _ hi => PC_s (by decide) (by decide) hi) (fun _ => ?_) | refine Fr_mset (fun _ hi => PC_c (by assumption) (by decide) hi) (fun _ => ?_) | refine Fr_mset (fun _ hi => PC_c (by decide) (by decide) hi) (fun _ => ?_) | refine Fr_mset (fun _ hi => PC_n (by decide) hi) (fun _ => ?_) | refine Fr_bnd (fun _ => ?_) | refine Fr_bd ?_ (fun _ _ => ?_) | assumption | decide | intro _)

theorem frd_X7_dropUntil_L9_body (q0 : Nat) (a1 : Int32) (kx1 : Int32 → Mem → Ans) (kb : Int32 → Int32 → Mem → Ans) (a2 : Int32) (a3 : Int32) (hq0 : q0 < 7) (hx1 : ∀ (b2 : Int32) (M0 : Mem), Fr PC M0 (kx1 b2 M0)) (hb : ∀ (b2 : Int32) (b3 : Int32) (M0 : Mem), Fr PC M0 (kb b2 b3 M0)) (M : Mem) : Fr PC M (d_X7_dropUntil_L9_body q0 a1 kx1 kb a2 a3 M) := by
  unfold d_X7_dropUntil_L9_body
  with_reducible repeat' (first | exact Fr_some | exact hx1 _ _ | exact hb _ _ _ | refine Fr_ite ?_ ?_ | refine Fr_chk ?_ | refine Fr_nar ?_ | refine Fr_stk (fun _ _ => ?_) | refine Fr_mup (fun _ hi => PC_s (by assumption) (by decide) hi) (fun _ => ?_) | refine Fr_mup (fun _ hi => PC_s (by decide) (by decide) hi) (fun _ => ?_) | refine Fr_mup (fun _ hi => PC_c (by assumption) (by decide) hi) (fun _ => ?_) | refine Fr_mup (fun _ hi => PC_c (by decide) (by decide) hi) (fun _ => ?_) | refine Fr_mup (fun _ hi => PC_n (by decide) hi) (fun _ => ?_) | refine Fr_mset (fun _ hi => PC_s (by assumption) (by decide) hi) (fun _ => ?_) | refine Fr_mset (fun _ hi => PC_s (by decide) (by decide) hi) (fun _ => ?_) | refine Fr_mset (fun _ hi => PC_c (by assumption) (by decide) hi) (fun _ => ?_) | refine Fr_mset (fun _ hi => PC_c (by decide) (by decide) hi) (fun _ => ?_) | refine Fr_mset (fun _ hi => PC_n (by decide) hi) (fun _ => ?_) | refine Fr_bnd (fun _ => ?_) | refine Fr_bd ?_ (fun _ _ => ?_) | apply frd_X7_dropUntil_B34 | apply frd_X7_takeOut | assumption | decide | intro _)

theorem frd_X7_dropUntil_L9 (q0 : Nat) (a1 : Int32) (kx1 : Int32 → Mem → Ans) (hq0 : q0 < 7) (hx1 : ∀ (b2 : Int32) (M0 : Mem), Fr PC M0 (kx1 b2 M0)) : ∀ (n : Nat) (a2 : Int32) (a3 : Int32) (M : Mem), Fr PC M (d_X7_dropUntil_L9 q0 a1 kx1 n a2 a3 M) := by
  intro n
  induction n with
  | zero => intro a2 a3 M; exact Fr_none
  | succ n ih => intro a2 a3 M; exact frd_X7_dropUntil_L9_body q0 a1 kx1 _ a2 a3 hq0 hx1 ih M

theorem frd_X7_dropUntil (q0 : Nat) (p1 : Int32) (hq0 : q0 < 7) (M : Mem) : Fr PC M (d_X7_dropUntil q0 p1 M) := by
  unfold d_X7_dropUntil
  with_reducible repeat' (first | exact Fr_some | refine Fr_ite ?_ ?_ | refine Fr_chk ?_ | refine Fr_nar ?_ | refine Fr_stk (fun _ _ => ?_) | refine Fr_mup (fun _ hi => PC_s (by assumption) (by decide) hi) (fun _ => ?_) | refine Fr_mup (fun _ hi => PC_s (by decide) (by decide) hi) (fun _ => ?_) | refine Fr_mup (fun _ hi => PC_c (by assumption) (by decide) hi) (fun _ => ?_) | refine Fr_mup (fun _ hi => PC_c (by decide) (by decide) hi) (fun _ => ?_) | refine Fr_mup (fun _ hi => PC_n (by decide) hi) (fun _ => ?_) | refine Fr_mset (fun _ hi => PC_s (by assumption) (by decide) hi) (fun _ => ?_) | refine Fr_mset (fun _ hi => PC_s (by decide) (by decide) hi) (fun _ => ?_) | refine Fr_mset (fun _ hi => PC_c (by assumption) (by decide) hi) (fun _ => ?_) | refine Fr_mset (fun _ hi => PC_c (by decide) (by decide) hi) (fun _ => ?_) | refine Fr_mset (fun _ hi => PC_n (by decide) hi) (fun _ => ?_) | refine Fr_bnd (fun _ => ?_) | refine Fr_bd ?_ (fun _ _ => ?_) | apply frd_X7_dropUntil_L9 | assumption | decide | intro _)

theorem frd_X8_within (p0 : Int32) (p1 : Int32) (p2 : Int32) (M : Mem) : Fr PC M (d_X8_within p0 p1 p2 M) := by
  unfold d_X8_within
  with_reducible repeat' (first | exact Fr_some | refine Fr_ite ?_ ?_ | refine Fr_chk ?_ | refine Fr_nar ?_ | refine Fr_stk (fun _ _ => ?_) | refine Fr_mup (fun _ hi => PC_s (by assumption) (by decide) hi) (fun _ => ?_) | refine Fr_mup (fun _ hi => PC_s (by decide) (by decide) hi) (fun _ => ?_) | refine Fr_mup (fun _ hi => PC_c (by assumption) (by decide) hi) (fun _ => ?_) | refine Fr_mup (fun _ hi => PC_c (by decide) (by decide) hi) (fun _ => ?_) | refine Fr_mup (fun _ hi => PC_n (by decide) hi) (fun _ => ?_) | refine Fr_mset (fun _ hi => PC_s (by assumption) (by decide) hi) (fun _ => ?_) | refine Fr_mset (fun _ hi => PC_s (by decide) (by decide) hi) (fun _ => ?_) | refine Fr_mset (fun _ hi => PC_c (by assumption) (by decide) hi) (fun _ => ?_) | refine Fr_mset (fun _ hi => PC_c (by decide) (by decide) hi) (fun _ => ?_) | refine Fr_mset (fun _ hi => PC_n (by decide) hi) (fun _ => ?_) | refine Fr_bnd (fun _ => ?_) | refine Fr_bd ?_ (fun _ _ => ?_) | assumption | decide | intro _)

theorem frd_X8_addRecipe_B48 (a1 : Int32) (a2 : Int32) (a3 : Int32) (a4 : Int32) (s0 : Int32) (M : Mem) : Fr PC M (d_X8_addRecipe_B48 a1 a2 a3 a4 s0 M) := by
  unfold d_X8_addRecipe_B48
  with_reducible repeat' (first | exact Fr_some | refine Fr_ite ?_ ?_ | refine Fr_chk ?_ | refine Fr_nar ?_ | refine Fr_stk (fun _ _ => ?_) | refine Fr_mup (fun _ hi => PC_s (by assumption) (by decide) hi) (fun _ => ?_) | refine Fr_mup (fun _ hi => PC_s (by decide) (by decide) hi) (fun _ => ?_) | refine Fr_mup (fun _ hi => PC_c (by assumption) (by decide) hi) (fun _ => ?_) | refine Fr_mup (fun _ hi => PC_c (by decide) (by decide) hi) (fun _ => ?_) | refine Fr_mup (fun _ hi => PC_n (by decide) hi) (fun _ => ?_) | refine Fr_mset (fun _ hi => PC_s (by assumption) (by decide) hi) (fun _ => ?_) | refine Fr_mset (fun _ hi => PC_s (by decide) (by decide) hi) (fun _ => ?_) | refine Fr_mset (fun _ hi => PC_c (by assumption) (by decide) hi) (fun _ => ?_) | refine Fr_mset (fun _ hi => PC_c (by decide) (by decide) hi) (fun _ => ?_) | refine Fr_mset (fun _ hi => PC_n (by decide) hi) (fun _ => ?_) | refine Fr_bnd (fun _ => ?_) | refine Fr_bd ?_ (fun _ _ => ?_) | apply frd_X2_push | apply frd_X4_append | assumption | decide | intro _)

theorem frd_X8_addRecipe_B47 (a1 : Int32) (a2 : Int32) (a3 : Int32) (a4 : Int32) (M : Mem) : Fr PC M (d_X8_addRecipe_B47 a1 a2 a3 a4 M) := by
  unfold d_X8_addRecipe_B47
  with_reducible repeat' (first | exact Fr_some | refine Fr_ite ?_ ?_ | refine Fr_chk ?_ | refine Fr_nar ?_ | refine Fr_stk (fun _ _ => ?_) | refine Fr_mup (fun _ hi => PC_s (by assumption) (by decide) hi) (fun _ => ?_) | refine Fr_mup (fun _ hi => PC_s (by decide) (by decide) hi) (fun _ => ?_) | refine Fr_mup (fun _ hi => PC_c (by assumption) (by decide) hi) (fun _ => ?_) | refine Fr_mup (fun _ hi => PC_c (by decide) (by decide) hi) (fun _ => ?_) | refine Fr_mup (fun _ hi => PC_n (by decide) hi) (fun _ => ?_) | refine Fr_mset (fun _ hi => PC_s (by assumption) (by decide) hi) (fun _ => ?_) | refine Fr_mset (fun _ hi => PC_s (by decide) (by decide) hi) (fun _ => ?_) | refine Fr_mset (fun _ hi => PC_c (by assumption) (by decide) hi) (fun _ => ?_) | refine Fr_mset (fun _ hi => PC_c (by decide) (by decide) hi) (fun _ => ?_) | refine Fr_mset (fun _ hi => PC_n (by decide) hi) (fun _ => ?_) | refine Fr_bnd (fun _ => ?_) | refine Fr_bd ?_ (fun _ _ => ?_) | apply frd_X8_addRecipe_B48 | assumption | decide | intro _)

theorem frd_X8_addRecipe (p1 : Int32) (p2 : Int32) (p3 : Int32) (p4 : Int32) (M : Mem) : Fr PC M (d_X8_addRecipe p1 p2 p3 p4 M) := by
  unfold d_X8_addRecipe
  with_reducible repeat' (first | exact Fr_some | refine Fr_ite ?_ ?_ | refine Fr_chk ?_ | refine Fr_nar ?_ | refine Fr_stk (fun _ _ => ?_) | refine Fr_mup (fun _ hi => PC_s (by assumption) (by decide) hi) (fun _ => ?_) | refine Fr_mup (fun _ hi => PC_s (by decide) (by decide) hi) (fun _ => ?_) | refine Fr_mup (fun _ hi => PC_c (by assumption) (by decide) hi) (fun _ => ?_) | refine Fr_mup (fun _ hi => PC_c (by decide) (by decide) hi) (fun _ => ?_) | refine Fr_mup (fun _ hi => PC_n (by decide) hi) (fun _ => ?_) | refine Fr_mset (fun _ hi => PC_s (by assumption) (by decide) hi) (fun _ => ?_) | refine Fr_mset (fun _ hi => PC_s (by decide) (by decide) hi) (fun _ => ?_) | refine Fr_mset (fun _ hi => PC_c (by assumption) (by decide) hi) (fun _ => ?_) | refine Fr_mset (fun _ hi => PC_c (by decide) (by decide) hi) (fun _ => ?_) | refine Fr_mset (fun _ hi => PC_n (by decide) hi) (fun _ => ?_) | refine Fr_bnd (fun _ => ?_) | refine Fr_bd ?_ (fun _ _ => ?_) | apply frd_X8_within | apply frd_X8_addRecipe_B47 | apply frd_X8_addRecipe_B48 | assumption | decide | intro _)

theorem frd_X8_forecastToEnd (M : Mem) : Fr PC M (d_X8_forecastToEnd M) := by
  unfold d_X8_forecastToEnd
  with_reducible repeat' (first | exact Fr_some | refine Fr_ite ?_ ?_ | refine Fr_chk ?_ | refine Fr_nar ?_ | refine Fr_stk (fun _ _ => ?_) | refine Fr_mup (fun _ hi => PC_s (by assumption) (by decide) hi) (fun _ => ?_) | refine Fr_mup (fun _ hi => PC_s (by decide) (by decide) hi) (fun _ => ?_) | refine Fr_mup (fun _ hi => PC_c (by assumption) (by decide) hi) (fun _ => ?_) | refine Fr_mup (fun _ hi => PC_c (by decide) (by decide) hi) (fun _ => ?_) | refine Fr_mup (fun _ hi => PC_n (by decide) hi) (fun _ => ?_) | refine Fr_mset (fun _ hi => PC_s (by assumption) (by decide) hi) (fun _ => ?_) | refine Fr_mset (fun _ hi => PC_s (by decide) (by decide) hi) (fun _ => ?_) | refine Fr_mset (fun _ hi => PC_c (by assumption) (by decide) hi) (fun _ => ?_) | refine Fr_mset (fun _ hi => PC_c (by decide) (by decide) hi) (fun _ => ?_) | refine Fr_mset (fun _ hi => PC_n (by decide) hi) (fun _ => ?_) | refine Fr_bnd (fun _ => ?_) | refine Fr_bd ?_ (fun _ _ => ?_) | apply frd_X1_begin | apply frd_X1_passToEnd | assumption | decide | intro _)

theorem frd_X8_countDoomed (M : Mem) : Fr PC M (d_X8_countDoomed M) := by
  unfold d_X8_countDoomed
  with_reducible repeat' (first | exact Fr_some | refine Fr_ite ?_ ?_ | refine Fr_chk ?_ | refine Fr_nar ?_ | refine Fr_stk (fun _ _ => ?_) | refine Fr_mup (fun _ hi => PC_s (by assumption) (by decide) hi) (fun _ => ?_) | refine Fr_mup (fun _ hi => PC_s (by decide) (by decide) hi) (fun _ => ?_) | refine Fr_mup (fun _ hi => PC_c (by assumption) (by decide) hi) (fun _ => ?_) | refine Fr_mup (fun _ hi => PC_c (by decide) (by decide) hi) (fun _ => ?_) | refine Fr_mup (fun _ hi => PC_n (by decide) hi) (fun _ => ?_) | refine Fr_mset (fun _ hi => PC_s (by assumption) (by decide) hi) (fun _ => ?_) | refine Fr_mset (fun _ hi => PC_s (by decide) (by decide) hi) (fun _ => ?_) | refine Fr_mset (fun _ hi => PC_c (by assumption) (by decide) hi) (fun _ => ?_) | refine Fr_mset (fun _ hi => PC_c (by decide) (by decide) hi) (fun _ => ?_) | refine Fr_mset (fun _ hi => PC_n (by decide) hi) (fun _ => ?_) | refine Fr_bnd (fun _ => ?_) | refine Fr_bd ?_ (fun _ _ => ?_) | apply frd_X8_forecastToEnd | apply frd_X1_countSpoiled | assumption | decide | intro _)

theorem frd_X8_setHeat (p1 : Int32) (M : Mem) : Fr PC M (d_X8_setHeat p1 M) := by
  unfold d_X8_setHeat
  with_reducible repeat' (first | exact Fr_some | refine Fr_ite ?_ ?_ | refine Fr_chk ?_ | refine Fr_nar ?_ | refine Fr_stk (fun _ _ => ?_) | refine Fr_mup (fun _ hi => PC_s (by assumption) (by decide) hi) (fun _ => ?_) | refine Fr_mup (fun _ hi => PC_s (by decide) (by decide) hi) (fun _ => ?_) | refine Fr_mup (fun _ hi => PC_c (by assumption) (by decide) hi) (fun _ => ?_) | refine Fr_mup (fun _ hi => PC_c (by decide) (by decide) hi) (fun _ => ?_) | refine Fr_mup (fun _ hi => PC_n (by decide) hi) (fun _ => ?_) | refine Fr_mset (fun _ hi => PC_s (by assumption) (by decide) hi) (fun _ => ?_) | refine Fr_mset (fun _ hi => PC_s (by decide) (by decide) hi) (fun _ => ?_) | refine Fr_mset (fun _ hi => PC_c (by assumption) (by decide) hi) (fun _ => ?_) | refine Fr_mset (fun _ hi => PC_c (by decide) (by decide) hi) (fun _ => ?_) | refine Fr_mset (fun _ hi => PC_n (by decide) hi) (fun _ => ?_) | refine Fr_bnd (fun _ => ?_) | refine Fr_bd ?_ (fun _ _ => ?_) | apply frd_X8_within | apply frd_X2_push | apply frd_X8_countDoomed | assumption | decide | intro _)

theorem frd_X8_setMost (p1 : Int32) (M : Mem) : Fr PC M (d_X8_setMost p1 M) := by
  unfold d_X8_setMost
  with_reducible repeat' (first | exact Fr_some | refine Fr_ite ?_ ?_ | refine Fr_chk ?_ | refine Fr_nar ?_ | refine Fr_stk (fun _ _ => ?_) | refine Fr_mup (fun _ hi => PC_s (by assumption) (by decide) hi) (fun _ => ?_) | refine Fr_mup (fun _ hi => PC_s (by decide) (by decide) hi) (fun _ => ?_) | refine Fr_mup (fun _ hi => PC_c (by assumption) (by decide) hi) (fun _ => ?_) | refine Fr_mup (fun _ hi => PC_c (by decide) (by decide) hi) (fun _ => ?_) | refine Fr_mup (fun _ hi => PC_n (by decide) hi) (fun _ => ?_) | refine Fr_mset (fun _ hi => PC_s (by assumption) (by decide) hi) (fun _ => ?_) | refine Fr_mset (fun _ hi => PC_s (by decide) (by decide) hi) (fun _ => ?_) | refine Fr_mset (fun _ hi => PC_c (by assumption) (by decide) hi) (fun _ => ?_) | refine Fr_mset (fun _ hi => PC_c (by decide) (by decide) hi) (fun _ => ?_) | refine Fr_mset (fun _ hi => PC_n (by decide) hi) (fun _ => ?_) | refine Fr_bnd (fun _ => ?_) | refine Fr_bd ?_ (fun _ _ => ?_) | apply frd_X8_within | apply frd_X2_push | assumption | decide | intro _)

theorem frd_X8_fall (p1 : Int32) (M : Mem) : Fr PC M (d_X8_fall p1 M) := by
  unfold d_X8_fall
  with_reducible repeat' (first | exact Fr_some | refine Fr_ite ?_ ?_ | refine Fr_chk ?_ | refine Fr_nar ?_ | refine Fr_stk (fun _ _ => ?_) | refine Fr_mup (fun _ hi => PC_s (by assumption) (by decide) hi) (fun _ => ?_) | refine Fr_mup (fun _ hi => PC_s (by decide) (by decide) hi) (fun _ => ?_) | refine Fr_mup (fun _ hi => PC_c (by assumption) (by decide) hi) (fun _ => ?_) | refine Fr_mup (fun _ hi => PC_c (by decide) (by decide) hi) (fun _ => ?_) | refine Fr_mup (fun _ hi => PC_n (by decide) hi) (fun _ => ?_) | refine Fr_mset (fun _ hi => PC_s (by assumption) (by decide) hi) (fun _ => ?_) | refine Fr_mset (fun _ hi => PC_s (by decide) (by decide) hi) (fun _ => ?_) | refine Fr_mset (fun _ hi => PC_c (by assumption) (by decide) hi) (fun _ => ?_) | refine Fr_mset (fun _ hi => PC_c (by decide) (by decide) hi) (fun _ => ?_) | refine Fr_mset (fun _ hi => PC_n (by decide) hi) (fun _ => ?_) | refine Fr_bnd (fun _ => ?_) | refine Fr_bd ?_ (fun _ _ => ?_) | apply frd_X8_within | apply frd_X2_push | apply frd_X8_countDoomed | assumption | decide | intro _)

theorem frd_X8_isRobot (p0 : Int32) (M : Mem) : Fr PC M (d_X8_isRobot p0 M) := by
  unfold d_X8_isRobot
  with_reducible repeat' (first | exact Fr_some | refine Fr_ite ?_ ?_ | refine Fr_chk ?_ | refine Fr_nar ?_ | refine Fr_stk (fun _ _ => ?_) | refine Fr_mup (fun _ hi => PC_s (by assumption) (by decide) hi) (fun _ => ?_) | refine Fr_mup (fun _ hi => PC_s (by decide) (by decide) hi) (fun _ => ?_) | refine Fr_mup (fun _ hi => PC_c (by assumption) (by decide) hi) (fun _ => ?_) | refine Fr_mup (fun _ hi => PC_c (by decide) (by decide) hi) (fun _ => ?_) | refine Fr_mup (fun _ hi => PC_n (by decide) hi) (fun _ => ?_) | refine Fr_mset (fun _ hi => PC_s (by assumption) (by decide) hi) (fun _ => ?_) | refine Fr_mset (fun _ hi => PC_s (by decide) (by decide) hi) (fun _ => ?_) | refine Fr_mset (fun _ hi => PC_c (by assumption) (by decide) hi) (fun _ => ?_) | refine Fr_mset (fun _ hi => PC_c (by decide) (by decide) hi) (fun _ => ?_) | refine Fr_mset (fun _ hi => PC_n (by decide) hi) (fun _ => ?_) | refine Fr_bnd (fun _ => ?_) | refine Fr_bd ?_ (fun _ _ => ?_) | apply frd_X8_within | assumption | decide | intro _)

theorem frd_X8_errorOf (p0 : Int32) (M : Mem) : Fr PC M (d_X8_errorOf p0 M) := by
  unfold d_X8_errorOf
  with_reducible repeat' (first | exact Fr_some | refine Fr_ite ?_ ?_ | refine Fr_chk ?_ | refine Fr_nar ?_ | refine Fr_stk (fun _ _ => ?_) | refine Fr_mup (fun _ hi => PC_s (by assumption) (by decide) hi) (fun _ => ?_) | refine Fr_mup (fun _ hi => PC_s (by decide) (by decide) hi) (fun _ => ?_) | refine Fr_mup (fun _ hi => PC_c (by assumption) (by decide) hi) (fun _ => ?_) | refine Fr_mup (fun _ hi => PC_c (by decide) (by decide) hi) (fun _ => ?_) | refine Fr_mup (fun _ hi => PC_n (by decide) hi) (fun _ => ?_) | refine Fr_mset (fun _ hi => PC_s (by assumption) (by decide) hi) (fun _ => ?_) | refine Fr_mset (fun _ hi => PC_s (by decide) (by decide) hi) (fun _ => ?_) | refine Fr_mset (fun _ hi => PC_c (by assumption) (by decide) hi) (fun _ => ?_) | refine Fr_mset (fun _ hi => PC_c (by decide) (by decide) hi) (fun _ => ?_) | refine Fr_mset (fun _ hi => PC_n (by decide) hi) (fun _ => ?_) | refine Fr_bnd (fun _ => ?_) | refine Fr_bd ?_ (fun _ _ => ?_) | assumption | decide | intro _)

theorem frd_X8_errorOfBooking (p1 : Int32) (p2 : Int32) (p3 : Int32) (M : Mem) : Fr PC M (d_X8_errorOfBooking p1 p2 p3 M) := by
  unfold d_X8_errorOfBooking
  with_reducible repeat' (first | exact Fr_some | refine Fr_ite ?_ ?_ | refine Fr_chk ?_ | refine Fr_nar ?_ | refine Fr_stk (fun _ _ => ?_) | refine Fr_mup (fun _ hi => PC_s (by assumption) (by decide) hi) (fun _ => ?_) | refine Fr_mup (fun _ hi => PC_s (by decide) (by decide) hi) (fun _ => ?_) | refine Fr_mup (fun _ hi => PC_c (by assumption) (by decide) hi) (fun _ => ?_) | refine Fr_mup (fun _ hi => PC_c (by decide) (by decide) hi) (fun _ => ?_) | refine Fr_mup (fun _ hi => PC_n (by decide) hi) (fun _ => ?_) | refine Fr_mset (fun _ hi => PC_s (by assumption) (by decide) hi) (fun _ => ?_) | refine Fr_mset (fun _ hi => PC_s (by decide) (by decide) hi) (fun _ => ?_) | refine Fr_mset (fun _ hi => PC_c (by assumption) (by decide) hi) (fun _ => ?_) | refine Fr_mset (fun _ hi => PC_c (by decide) (by decide) hi) (fun _ => ?_) | refine Fr_mset (fun _ hi => PC_n (by decide) hi) (fun _ => ?_) | refine Fr_bnd (fun _ => ?_) | refine Fr_bd ?_ (fun _ _ => ?_) | apply frd_X8_isRobot | apply frd_X4_has | apply frd_X5_canStart | apply frd_X3_reasonAgainst | apply frd_X8_errorOf | assumption | decide | intro _)

theorem frd_X8_book (p1 : Int32) (p2 : Int32) (p3 : Int32) (M : Mem) : Fr PC M (d_X8_book p1 p2 p3 M) := by
  unfold d_X8_book
  with_reducible repeat' (first | exact Fr_some | refine Fr_ite ?_ ?_ | refine Fr_chk ?_ | refine Fr_nar ?_ | refine Fr_stk (fun _ _ => ?_) | refine Fr_mup (fun _ hi => PC_s (by assumption) (by decide) hi) (fun _ => ?_) | refine Fr_mup (fun _ hi => PC_s (by decide) (by decide) hi) (fun _ => ?_) | refine Fr_mup (fun _ hi => PC_c (by assumption) (by decide) hi) (fun _ => ?_) | refine Fr_mup (fun _ hi => PC_c (by decide) (by decide) hi) (fun _ => ?_) | refine Fr_mup (fun _ hi => PC_n (by decide) hi) (fun _ => ?_) | refine Fr_mset (fun _ hi => PC_s (by assumption) (by decide) hi) (fun _ => ?_) | refine Fr_mset (fun _ hi => PC_s (by decide) (by decide) hi) (fun _ => ?_) | refine Fr_mset (fun _ hi => PC_c (by assumption) (by decide) hi) (fun _ => ?_) | refine Fr_mset (fun _ hi => PC_c (by decide) (by decide) hi) (fun _ => ?_) | refine Fr_mset (fun _ hi => PC_n (by decide) hi) (fun _ => ?_) | refine Fr_bnd (fun _ => ?_) | refine Fr_bd ?_ (fun _ _ => ?_) | apply frd_X8_errorOfBooking | apply frd_X2_push | apply frd_X0_append | assumption | decide | intro _)

theorem frd_X8_tryWishes_B157 (kx1 : Mem → Ans) (kb : Int32 → Int32 → Mem → Ans) (a2 : Int32) (a3 : Int32) (a4 : Int32) (hx1 : ∀ (M0 : Mem), Fr PC M0 (kx1 M0)) (hb : ∀ (b3 : Int32) (b4 : Int32) (M0 : Mem), Fr PC M0 (kb b3 b4 M0)) (M : Mem) : Fr PC M (d_X8_tryWishes_B157 kx1 kb a2 a3 a4 M) := by
  unfold d_X8_tryWishes_B157
  with_reducible repeat' (first | exact Fr_some | exact hx1 _ | exact hb _ _ _ | refine Fr_ite ?_ ?_ | refine Fr_chk ?_ | refine Fr_nar ?_ | refine Fr_stk (fun _ _ => ?_) | refine Fr_mup (fun _ hi => PC_s (by assumption) (by decide) hi) (fun _ => ?_) | refine Fr_mup (fun _ hi => PC_s (by decide) (by decide) hi) (fun _ => ?_) | refine Fr_mup (fun _ hi => PC_c (by assumption) (by decide) hi) (fun _ => ?_) | refine Fr_mup (fun _ hi => PC_c (by decide) (by decide) hi) (fun _ => ?_) | refine Fr_mup (fun _ hi => PC_n (by decide) hi) (fun _ => ?_) | refine Fr_mset (fun _ hi => PC_s (by assumption) (by decide) hi) (fun _ => ?_) | refine Fr_mset (fun _ hi => PC_s (by decide) (by decide) hi) (fun _ => ?_) | refine Fr_mset (fun _ hi => PC_c (by assumption) (by decide) hi) (fun _ => ?_) | refine Fr_mset (fun _ hi => PC_c (by decide) (by decide) hi) (fun _ => ?_) | refine Fr_mset (fun _ hi => PC_n (by decide) hi) (fun _ => ?_) | refine Fr_bnd (fun _ => ?_) | refine Fr_bd ?_ (fun _ _ => ?_) | assumption | decide | intro _)

theorem frd_X8_tryWishes_B120 (kx1 : Mem → Ans) (kb : Int32 → Int32 → Mem → Ans) (a2 : Int32) (a3 : Int32) (a4 : Int32) (a5 : Int32) (a6 : Int32) (s0 : Int32) (hx1 : ∀ (M0 : Mem), Fr PC M0 (kx1 M0)) (hb : ∀ (b3 : Int32) (b4 : Int32) (M0 : Mem), Fr PC M0 (kb b3 b4 M0)) (M : Mem) : Fr PC M (d_X8_tryWishes_B120 kx1 kb a2 a3 a4 a5 a6 s0 M) := by
  unfold d_X8_tryWishes_B120
  with_reducible repeat' (first | exact Fr_some | exact hx1 _ | exact hb _ _ _ | refine Fr_ite ?_ ?_ | refine Fr_chk ?_ | refine Fr_nar ?_ | refine Fr_stk (fun _ _ => ?_) | refine Fr_mup (fun _ hi => PC_s (by assumption) (by decide) hi) (fun _ => ?_) | refine Fr_mup (fun _ hi => PC_s (by decide) (by decide) hi) (fun _ => ?_) | refine Fr_mup (fun _ hi => PC_c (by assumption) (by decide) hi) (fun _ => ?_) | refine Fr_mup (fun _ hi => PC_c (by decide) (by decide) hi) (fun _ => ?_) | refine Fr_mup (fun _ hi => PC_n (by decide) hi) (fun _ => ?_) | refine Fr_mset (fun _ hi => PC_s (by assumption) (by decide) hi) (fun _ => ?_) | refine Fr_mset (fun _ hi => PC_s (by decide) (by decide) hi) (fun _ => ?_) | refine Fr_mset (fun _ hi => PC_c (by assumption) (by decide) hi) (fun _ => ?_) | refine Fr_mset (fun _ hi => PC_c (by decide) (by decide) hi) (fun _ => ?_) | refine Fr_mset (fun _ hi => PC_n (by decide) hi) (fun _ => ?_) | refine Fr_bnd (fun _ => ?_) | refine Fr_bd ?_ (fun _ _ => ?_) | apply frd_X8_tryWishes_B157 | apply frd_X7_takeOut | apply frd_X0_append | assumption | decide | intro _)

theorem frd_X8_tryWishes_B76 (kx1 : Mem → Ans) (kb : Int32 → Int32 → Mem → Ans) (a2 : Int32) (a3 : Int32) (a4 : Int32) (a5 : Int32) (a6 : Int32) (a7 : Int32) (s0 : Int32) (hx1 : ∀ (M0 : Mem), Fr PC M0 (kx1 M0)) (hb : ∀ (b3 : Int32) (b4 : Int32) (M0 : Mem), Fr PC M0 (kb b3 b4 M0)) (M : Mem) : Fr PC M (d_X8_tryWishes_B76 kx1 kb a2 a3 a4 a5 a6 a7 s0 M) := by
  unfold d_X8_tryWishes_B76
  with_reducible repeat' (first | exact Fr_some | exact hx1 _ | exact hb _ _ _ | refine Fr_ite ?_ ?_ | refine Fr_chk ?_ | refine Fr_nar ?_ | refine Fr_stk (fun _ _ => ?_) | refine Fr_mup (fun _ hi => PC_s (by assumption) (by decide) hi) (fun _ => ?_) | refine Fr_mup (fun _ hi => PC_s (by decide) (by decide) hi) (fun _ => ?_) | refine Fr_mup (fun _ hi => PC_c (by assumption) (by decide) hi) (fun _ => ?_) | refine Fr_mup (fun _ hi => PC_c (by decide) (by decide) hi) (fun _ => ?_) | refine Fr_mup (fun _ hi => PC_n (by decide) hi) (fun _ => ?_) | refine Fr_mset (fun _ hi => PC_s (by assumption) (by decide) hi) (fun _ => ?_) | refine Fr_mset (fun _ hi => PC_s (by decide) (by decide) hi) (fun _ => ?_) | refine Fr_mset (fun _ hi => PC_c (by assumption) (by decide) hi) (fun _ => ?_) | refine Fr_mset (fun _ hi => PC_c (by decide) (by decide) hi) (fun _ => ?_) | refine Fr_mset (fun _ hi => PC_n (by decide) hi) (fun _ => ?_) | refine Fr_bnd (fun _ => ?_) | refine Fr_bd ?_ (fun _ _ => ?_) | apply frd_X8_tryWishes_B120 | apply frd_X3_firstFit | assumption | decide | intro _)

theorem frd_X8_tryWishes_L18_body (a2 : Int32) (kx1 : Mem → Ans) (kb : Int32 → Int32 → Mem → Ans) (a3 : Int32) (a4 : Int32) (hx1 : ∀ (M0 : Mem), Fr PC M0 (kx1 M0)) (hb : ∀ (b3 : Int32) (b4 : Int32) (M0 : Mem), Fr PC M0 (kb b3 b4 M0)) (M : Mem) : Fr PC M (d_X8_tryWishes_L18_body a2 kx1 kb a3 a4 M) := by
  unfold d_X8_tryWishes_L18_body
  with_reducible repeat' (first | exact Fr_some | exact hx1 _ | exact hb _ _ _ | refine Fr_ite ?_ ?_ | refine Fr_chk ?_ | refine Fr_nar ?_ | refine Fr_stk (fun _ _ => ?_) | refine Fr_mup (fun _ hi => PC_s (by assumption) (by decide) hi) (fun _ => ?_) | refine Fr_mup (fun _ hi => PC_s (by decide) (by decide) hi) (fun _ => ?_) | refine Fr_mup (fun _ hi => PC_c (by assumption) (by decide) hi) (fun _ => ?_) | refine Fr_mup (fun _ hi => PC_c (by decide) (by decide) hi) (fun _ => ?_) | refine Fr_mup (fun _ hi => PC_n (by decide) hi) (fun _ => ?_) | refine Fr_mset (fun _ hi => PC_s (by assumption) (by decide) hi) (fun _ => ?_) | refine Fr_mset (fun _ hi => PC_s (by decide) (by decide) hi) (fun _ => ?_) | refine Fr_mset (fun _ hi => PC_c (by assumption) (by decide) hi) (fun _ => ?_) | refine Fr_mset (fun _ hi => PC_c (by decide) (by decide) hi) (fun _ => ?_) | refine Fr_mset (fun _ hi => PC_n (by decide) hi) (fun _ => ?_) | refine Fr_bnd (fun _ => ?_) | refine Fr_bd ?_ (fun _ _ => ?_) | apply frd_X7_has | apply frd_X8_tryWishes_B76 | assumption | decide | intro _)

theorem frd_X8_tryWishes_L18 (a2 : Int32) (kx1 : Mem → Ans) (hx1 : ∀ (M0 : Mem), Fr PC M0 (kx1 M0)) : ∀ (n : Nat) (a3 : Int32) (a4 : Int32) (M : Mem), Fr PC M (d_X8_tryWishes_L18 a2 kx1 n a3 a4 M) := by
  intro n
  induction n with
  | zero => intro a3 a4 M; exact Fr_none
  | succ n ih => intro a3 a4 M; exact frd_X8_tryWishes_L18_body a2 kx1 _ a3 a4 hx1 ih M

theorem frd_X8_tryWishes_B163 (a2 : Int32) (M : Mem) : Fr PC M (d_X8_tryWishes_B163 a2 M) := by
  unfold d_X8_tryWishes_B163
  with_reducible repeat' (first | exact Fr_some | refine Fr_ite ?_ ?_ | refine Fr_chk ?_ | refine Fr_nar ?_ | refine Fr_stk (fun _ _ => ?_) | refine Fr_mup (fun _ hi => PC_s (by assumption) (by decide) hi) (fun _ => ?_) | refine Fr_mup (fun _ hi => PC_s (by decide) (by decide) hi) (fun _ => ?_) | refine Fr_mup (fun _ hi => PC_c (by assumption) (by decide) hi) (fun _ => ?_) | refine Fr_mup (fun _ hi => PC_c (by decide) (by decide) hi) (fun _ => ?_) | refine Fr_mup (fun _ hi => PC_n (by decide) hi) (fun _ => ?_) | refine Fr_mset (fun _ hi => PC_s (by assumption) (by decide) hi) (fun _ => ?_) | refine Fr_mset (fun _ hi => PC_s (by decide) (by decide) hi) (fun _ => ?_) | refine Fr_mset (fun _ hi => PC_c (by assumption) (by decide) hi) (fun _ => ?_) | refine Fr_mset (fun _ hi => PC_c (by decide) (by decide) hi) (fun _ => ?_) | refine Fr_mset (fun _ hi => PC_n (by decide) hi) (fun _ => ?_) | refine Fr_bnd (fun _ => ?_) | refine Fr_bd ?_ (fun _ _ => ?_) | assumption | decide | intro _)

theorem frd_X8_tryWishes (M : Mem) : Fr PC M (d_X8_tryWishes M) := by
  unfold d_X8_tryWishes
  with_reducible repeat' (first | exact Fr_some | refine Fr_ite ?_ ?_ | refine Fr_chk ?_ | refine Fr_nar ?_ | refine Fr_stk (fun _ _ => ?_) | refine Fr_mup (fun _ hi => PC_s (by assumption) (by decide) hi) (fun _ => ?_) | refine Fr_mup (fun _ hi => PC_s (by decide) (by decide) hi) (fun _ => ?_) | refine Fr_mup (fun _ hi => PC_c (by assumption) (by decide) hi) (fun _ => ?_) | refine Fr_mup (fun _ hi => PC_c (by decide) (by decide) hi) (fun _ => ?_) | refine Fr_mup (fun _ hi => PC_n (by decide) hi) (fun _ => ?_) | refine Fr_mset (fun _ hi => PC_s (by assumption) (by decide) hi) (fun _ => ?_) | refine Fr_mset (fun _ hi => PC_s (by decide) (by decide) hi) (fun _ => ?_) | refine Fr_mset (fun _ hi => PC_c (by assumption) (by decide) hi) (fun _ => ?_) | refine Fr_mset (fun _ hi => PC_c (by decide) (by decide) hi) (fun _ => ?_) | refine Fr_mset (fun _ hi => PC_n (by decide) hi) (fun _ => ?_) | refine Fr_bnd (fun _ => ?_) | refine Fr_bd ?_ (fun _ _ => ?_) | apply frd_X8_tryWishes_L18 | apply frd_X8_tryWishes_B163 | assumption | decide | intro _)

theorem frd_X8_cancel (p1 : Int32) (M : Mem) : Fr PC M (d_X8_cancel p1 M) := by
  unfold d_X8_cancel
  with_reducible repeat' (first | exact Fr_some | refine Fr_ite ?_ ?_ | refine Fr_chk ?_ | refine Fr_nar ?_ | refine Fr_stk (fun _ _ => ?_) | refine Fr_mup (fun _ hi => PC_s (by assumption) (by decide) hi) (fun _ => ?_) | refine Fr_mup (fun _ hi => PC_s (by decide) (by decide) hi) (fun _ => ?_) | refine Fr_mup (fun _ hi => PC_c (by assumption) (by decide) hi) (fun _ => ?_) | refine Fr_mup (fun _ hi => PC_c (by decide) (by decide) hi) (fun _ => ?_) | refine Fr_mup (fun _ hi => PC_n (by decide) hi) (fun _ => ?_) | refine Fr_mset (fun _ hi => PC_s (by assumption) (by decide) hi) (fun _ => ?_) | refine Fr_mset (fun _ hi => PC_s (by decide) (by decide) hi) (fun _ => ?_) | refine Fr_mset (fun _ hi => PC_c (by assumption) (by decide) hi) (fun _ => ?_) | refine Fr_mset (fun _ hi => PC_c (by decide) (by decide) hi) (fun _ => ?_) | refine Fr_mset (fun _ hi => PC_n (by decide) hi) (fun _ => ?_) | refine Fr_bnd (fun _ => ?_) | refine Fr_bd ?_ (fun _ _ => ?_) | apply frd_X0_has | apply frd_X0_isOpen | apply frd_X2_push | apply frd_X8_tryWishes | assumption | decide | intro _)

theorem frd_X8_move (p1 : Int32) (p2 : Int32) (M : Mem) : Fr PC M (d_X8_move p1 p2 M) := by
  unfold d_X8_move
  with_reducible repeat' (first | exact Fr_some | refine Fr_ite ?_ ?_ | refine Fr_chk ?_ | refine Fr_nar ?_ | refine Fr_stk (fun _ _ => ?_) | refine Fr_mup (fun _ hi => PC_s (by assumption) (by decide) hi) (fun _ => ?_) | refine Fr_mup (fun _ hi => PC_s (by decide) (by decide) hi) (fun _ => ?_) | refine Fr_mup (fun _ hi => PC_c (by assumption) (by decide) hi) (fun _ => ?_) | refine Fr_mup (fun _ hi => PC_c (by decide) (by decide) hi) (fun _ => ?_) | refine Fr_mup (fun _ hi => PC_n (by decide) hi) (fun _ => ?_) | refine Fr_mset (fun _ hi => PC_s (by assumption) (by decide) hi) (fun _ => ?_) | refine Fr_mset (fun _ hi => PC_s (by decide) (by decide) hi) (fun _ => ?_) | refine Fr_mset (fun _ hi => PC_c (by assumption) (by decide) hi) (fun _ => ?_) | refine Fr_mset (fun _ hi => PC_c (by decide) (by decide) hi) (fun _ => ?_) | refine Fr_mset (fun _ hi => PC_n (by decide) hi) (fun _ => ?_) | refine Fr_bnd (fun _ => ?_) | refine Fr_bd ?_ (fun _ _ => ?_) | apply frd_X0_has | apply frd_X5_canStart | apply frd_X3_reasonAgainst | apply frd_X8_errorOf | apply frd_X2_push | assumption | decide | intro _)

theorem frd_X8_wasRepaired (p1 : Int32) (M : Mem) : Fr PC M (d_X8_wasRepaired p1 M) := by
  unfold d_X8_wasRepaired
  with_reducible repeat' (first | exact Fr_some | refine Fr_ite ?_ ?_ | refine Fr_chk ?_ | refine Fr_nar ?_ | refine Fr_stk (fun _ _ => ?_) | refine Fr_mup (fun _ hi => PC_s (by assumption) (by decide) hi) (fun _ => ?_) | refine Fr_mup (fun _ hi => PC_s (by decide) (by decide) hi) (fun _ => ?_) | refine Fr_mup (fun _ hi => PC_c (by assumption) (by decide) hi) (fun _ => ?_) | refine Fr_mup (fun _ hi => PC_c (by decide) (by decide) hi) (fun _ => ?_) | refine Fr_mup (fun _ hi => PC_n (by decide) hi) (fun _ => ?_) | refine Fr_mset (fun _ hi => PC_s (by assumption) (by decide) hi) (fun _ => ?_) | refine Fr_mset (fun _ hi => PC_s (by decide) (by decide) hi) (fun _ => ?_) | refine Fr_mset (fun _ hi => PC_c (by assumption) (by decide) hi) (fun _ => ?_) | refine Fr_mset (fun _ hi => PC_c (by decide) (by decide) hi) (fun _ => ?_) | refine Fr_mset (fun _ hi => PC_n (by decide) hi) (fun _ => ?_) | refine Fr_bnd (fun _ => ?_) | refine Fr_bd ?_ (fun _ _ => ?_) | assumption | decide | intro _)

theorem frd_X8_firstToRepair_B64 (kx1 : Mem → Ans) (kb : Int32 → Mem → Ans) (a1 : Int32) (hx1 : ∀ (M0 : Mem), Fr PC M0 (kx1 M0)) (hb : ∀ (b1 : Int32) (M0 : Mem), Fr PC M0 (kb b1 M0)) (M : Mem) : Fr PC M (d_X8_firstToRepair_B64 kx1 kb a1 M) := by
  unfold d_X8_firstToRepair_B64
  with_reducible repeat' (first | exact Fr_some | exact hx1 _ | exact hb _ _ | refine Fr_ite ?_ ?_ | refine Fr_chk ?_ | refine Fr_nar ?_ | refine Fr_stk (fun _ _ => ?_) | refine Fr_mup (fun _ hi => PC_s (by assumption) (by decide) hi) (fun _ => ?_) | refine Fr_mup (fun _ hi => PC_s (by decide) (by decide) hi) (fun _ => ?_) | refine Fr_mup (fun _ hi => PC_c (by assumption) (by decide) hi) (fun _ => ?_) | refine Fr_mup (fun _ hi => PC_c (by decide) (by decide) hi) (fun _ => ?_) | refine Fr_mup (fun _ hi => PC_n (by decide) hi) (fun _ => ?_) | refine Fr_mset (fun _ hi => PC_s (by assumption) (by decide) hi) (fun _ => ?_) | refine Fr_mset (fun _ hi => PC_s (by decide) (by decide) hi) (fun _ => ?_) | refine Fr_mset (fun _ hi => PC_c (by assumption) (by decide) hi) (fun _ => ?_) | refine Fr_mset (fun _ hi => PC_c (by decide) (by decide) hi) (fun _ => ?_) | refine Fr_mset (fun _ hi => PC_n (by decide) hi) (fun _ => ?_) | refine Fr_bnd (fun _ => ?_) | refine Fr_bd ?_ (fun _ _ => ?_) | assumption | decide | intro _)

theorem frd_X8_firstToRepair_L6_body (kx1 : Mem → Ans) (kb : Int32 → Mem → Ans) (a1 : Int32) (hx1 : ∀ (M0 : Mem), Fr PC M0 (kx1 M0)) (hb : ∀ (b1 : Int32) (M0 : Mem), Fr PC M0 (kb b1 M0)) (M : Mem) : Fr PC M (d_X8_firstToRepair_L6_body kx1 kb a1 M) := by
  unfold d_X8_firstToRepair_L6_body
  with_reducible repeat' (first | exact Fr_some | exact hx1 _ | exact hb _ _ | refine Fr_ite ?_ ?_ | refine Fr_chk ?_ | refine Fr_nar ?_ | refine Fr_stk (fun _ _ => ?_) | refine Fr_mup (fun _ hi => PC_s (by assumption) (by decide) hi) (fun _ => ?_) | refine Fr_mup (fun _ hi => PC_s (by decide) (by decide) hi) (fun _ => ?_) | refine Fr_mup (fun _ hi => PC_c (by assumption) (by decide) hi) (fun _ => ?_) | refine Fr_mup (fun _ hi => PC_c (by decide) (by decide) hi) (fun _ => ?_) | refine Fr_mup (fun _ hi => PC_n (by decide) hi) (fun _ => ?_) | refine Fr_mset (fun _ hi => PC_s (by assumption) (by decide) hi) (fun _ => ?_) | refine Fr_mset (fun _ hi => PC_s (by decide) (by decide) hi) (fun _ => ?_) | refine Fr_mset (fun _ hi => PC_c (by assumption) (by decide) hi) (fun _ => ?_) | refine Fr_mset (fun _ hi => PC_c (by decide) (by decide) hi) (fun _ => ?_) | refine Fr_mset (fun _ hi => PC_n (by decide) hi) (fun _ => ?_) | refine Fr_bnd (fun _ => ?_) | refine Fr_bd ?_ (fun _ _ => ?_) | apply frd_X0_stateOf | apply frd_X8_wasRepaired | apply frd_X8_firstToRepair_B64 | assumption | decide | intro _)

theorem frd_X8_firstToRepair_L6 (kx1 : Mem → Ans) (hx1 : ∀ (M0 : Mem), Fr PC M0 (kx1 M0)) : ∀ (n : Nat) (a1 : Int32) (M : Mem), Fr PC M (d_X8_firstToRepair_L6 kx1 n a1 M) := by
  intro n
  induction n with
  | zero => intro a1 M; exact Fr_none
  | succ n ih => intro a1 M; exact frd_X8_firstToRepair_L6_body kx1 _ a1 hx1 ih M

theorem frd_X8_firstToRepair (M : Mem) : Fr PC M (d_X8_firstToRepair M) := by
  unfold d_X8_firstToRepair
  with_reducible repeat' (first | exact Fr_some | refine Fr_ite ?_ ?_ | refine Fr_chk ?_ | refine Fr_nar ?_ | refine Fr_stk (fun _ _ => ?_) | refine Fr_mup (fun _ hi => PC_s (by assumption) (by decide) hi) (fun _ => ?_) | refine Fr_mup (fun _ hi => PC_s (by decide) (by decide) hi) (fun _ => ?_) | refine Fr_mup (fun _ hi => PC_c (by assumption) (by decide) hi) (fun _ => ?_) | refine Fr_mup (fun _ hi => PC_c (by decide) (by decide) hi) (fun _ => ?_) | refine Fr_mup (fun _ hi => PC_n (by decide) hi) (fun _ => ?_) | refine Fr_mset (fun _ hi => PC_s (by assumption) (by decide) hi) (fun _ => ?_) | refine Fr_mset (fun _ hi => PC_s (by decide) (by decide) hi) (fun _ => ?_) | refine Fr_mset (fun _ hi => PC_c (by assumption) (by decide) hi) (fun _ => ?_) | refine Fr_mset (fun _ hi => PC_c (by decide) (by decide) hi) (fun _ => ?_) | refine Fr_mset (fun _ hi => PC_n (by decide) hi) (fun _ => ?_) | refine Fr_bnd (fun _ => ?_) | refine Fr_bd ?_ (fun _ _ => ?_) | apply frd_X8_forecastToEnd | apply frd_X8_firstToRepair_L6 | assumption | decide | intro _)

theorem frd_X8_moveLaterOrCancel (p1 : Int32) (M : Mem) : Fr PC M (d_X8_moveLaterOrCancel p1 M) := by
  unfold d_X8_moveLaterOrCancel
  with_reducible repeat' (first | exact Fr_some | refine Fr_ite ?_ ?_ | refine Fr_chk ?_ | refine Fr_nar ?_ | refine Fr_stk (fun _ _ => ?_) | refine Fr_mup (fun _ hi => PC_s (by assumption) (by decide) hi) (fun _ => ?_) | refine Fr_mup (fun _ hi => PC_s (by decide) (by decide) hi) (fun _ => ?_) | refine Fr_mup (fun _ hi => PC_c (by assumption) (by decide) hi) (fun _ => ?_) | refine Fr_mup (fun _ hi => PC_c (by decide) (by decide) hi) (fun _ => ?_) | refine Fr_mup (fun _ hi => PC_n (by decide) hi) (fun _ => ?_) | refine Fr_mset (fun _ hi => PC_s (by assumption) (by decide) hi) (fun _ => ?_) | refine Fr_mset (fun _ hi => PC_s (by decide) (by decide) hi) (fun _ => ?_) | refine Fr_mset (fun _ hi => PC_c (by assumption) (by decide) hi) (fun _ => ?_) | refine Fr_mset (fun _ hi => PC_c (by decide) (by decide) hi) (fun _ => ?_) | refine Fr_mset (fun _ hi => PC_n (by decide) hi) (fun _ => ?_) | refine Fr_bnd (fun _ => ?_) | refine Fr_bd ?_ (fun _ _ => ?_) | apply frd_X0_has | apply frd_X3_firstFit | assumption | decide | intro _)

theorem frd_X8_repair_L2_body (kx1 : Mem → Ans) (kb : Int32 → Mem → Ans) (a1 : Int32) (hx1 : ∀ (M0 : Mem), Fr PC M0 (kx1 M0)) (hb : ∀ (b1 : Int32) (M0 : Mem), Fr PC M0 (kb b1 M0)) (M : Mem) : Fr PC M (d_X8_repair_L2_body kx1 kb a1 M) := by
  unfold d_X8_repair_L2_body
  with_reducible repeat' (first | exact Fr_some | exact hx1 _ | exact hb _ _ | refine Fr_ite ?_ ?_ | refine Fr_chk ?_ | refine Fr_nar ?_ | refine Fr_stk (fun _ _ => ?_) | refine Fr_mup (fun _ hi => PC_s (by assumption) (by decide) hi) (fun _ => ?_) | refine Fr_mup (fun _ hi => PC_s (by decide) (by decide) hi) (fun _ => ?_) | refine Fr_mup (fun _ hi => PC_c (by assumption) (by decide) hi) (fun _ => ?_) | refine Fr_mup (fun _ hi => PC_c (by decide) (by decide) hi) (fun _ => ?_) | refine Fr_mup (fun _ hi => PC_n (by decide) hi) (fun _ => ?_) | refine Fr_mset (fun _ hi => PC_s (by assumption) (by decide) hi) (fun _ => ?_) | refine Fr_mset (fun _ hi => PC_s (by decide) (by decide) hi) (fun _ => ?_) | refine Fr_mset (fun _ hi => PC_c (by assumption) (by decide) hi) (fun _ => ?_) | refine Fr_mset (fun _ hi => PC_c (by decide) (by decide) hi) (fun _ => ?_) | refine Fr_mset (fun _ hi => PC_n (by decide) hi) (fun _ => ?_) | refine Fr_bnd (fun _ => ?_) | refine Fr_bd ?_ (fun _ _ => ?_) | assumption | decide | intro _)

theorem frd_X8_repair_L2 (kx1 : Mem → Ans) (hx1 : ∀ (M0 : Mem), Fr PC M0 (kx1 M0)) : ∀ (n : Nat) (a1 : Int32) (M : Mem), Fr PC M (d_X8_repair_L2 kx1 n a1 M) := by
  intro n
  induction n with
  | zero => intro a1 M; exact Fr_none
  | succ n ih => intro a1 M; exact frd_X8_repair_L2_body kx1 _ a1 hx1 ih M

theorem frd_X8_repair_B71 (kx1 : Int32 → Mem → Ans) (kb : Int32 → Int32 → Int32 → Mem → Ans) (a2 : Int32) (a3 : Int32) (hx1 : ∀ (b2 : Int32) (M0 : Mem), Fr PC M0 (kx1 b2 M0)) (hb : ∀ (b1 : Int32) (b2 : Int32) (b3 : Int32) (M0 : Mem), Fr PC M0 (kb b1 b2 b3 M0)) (M : Mem) : Fr PC M (d_X8_repair_B71 kx1 kb a2 a3 M) := by
  unfold d_X8_repair_B71
  with_reducible repeat' (first | exact Fr_some | exact hx1 _ _ | exact hb _ _ _ _ | refine Fr_ite ?_ ?_ | refine Fr_chk ?_ | refine Fr_nar ?_ | refine Fr_stk (fun _ _ => ?_) | refine Fr_mup (fun _ hi => PC_s (by assumption) (by decide) hi) (fun _ => ?_) | refine Fr_mup (fun _ hi => PC_s (by decide) (by decide) hi) (fun _ => ?_) | refine Fr_mup (fun _ hi => PC_c (by assumption) (by decide) hi) (fun _ => ?_) | refine Fr_mup (fun _ hi => PC_c (by decide) (by decide) hi) (fun _ => ?_) | refine Fr_mup (fun _ hi => PC_n (by decide) hi) (fun _ => ?_) | refine Fr_mset (fun _ hi => PC_s (by assumption) (by decide) hi) (fun _ => ?_) | refine Fr_mset (fun _ hi => PC_s (by decide) (by decide) hi) (fun _ => ?_) | refine Fr_mset (fun _ hi => PC_c (by assumption) (by decide) hi) (fun _ => ?_) | refine Fr_mset (fun _ hi => PC_c (by decide) (by decide) hi) (fun _ => ?_) | refine Fr_mset (fun _ hi => PC_n (by decide) hi) (fun _ => ?_) | refine Fr_bnd (fun _ => ?_) | refine Fr_bd ?_ (fun _ _ => ?_) | apply frd_X8_firstToRepair | assumption | decide | intro _)

theorem frd_X8_repair_L49_body (kx1 : Int32 → Mem → Ans) (kb : Int32 → Int32 → Int32 → Mem → Ans) (a1 : Int32) (a2 : Int32) (a3 : Int32) (hx1 : ∀ (b2 : Int32) (M0 : Mem), Fr PC M0 (kx1 b2 M0)) (hb : ∀ (b1 : Int32) (b2 : Int32) (b3 : Int32) (M0 : Mem), Fr PC M0 (kb b1 b2 b3 M0)) (M : Mem) : Fr PC M (d_X8_repair_L49_body kx1 kb a1 a2 a3 M) := by
  unfold d_X8_repair_L49_body
  with_reducible repeat' (first | exact Fr_some | exact hx1 _ _ | exact hb _ _ _ _ | refine Fr_ite ?_ ?_ | refine Fr_chk ?_ | refine Fr_nar ?_ | refine Fr_stk (fun _ _ => ?_) | refine Fr_mup (fun _ hi => PC_s (by assumption) (by decide) hi) (fun _ => ?_) | refine Fr_mup (fun _ hi => PC_s (by decide) (by decide) hi) (fun _ => ?_) | refine Fr_mup (fun _ hi => PC_c (by assumption) (by decide) hi) (fun _ => ?_) | refine Fr_mup (fun _ hi => PC_c (by decide) (by decide) hi) (fun _ => ?_) | refine Fr_mup (fun _ hi => PC_n (by decide) hi) (fun _ => ?_) | refine Fr_mset (fun _ hi => PC_s (by assumption) (by decide) hi) (fun _ => ?_) | refine Fr_mset (fun _ hi => PC_s (by decide) (by decide) hi) (fun _ => ?_) | refine Fr_mset (fun _ hi => PC_c (by assumption) (by decide) hi) (fun _ => ?_) | refine Fr_mset (fun _ hi => PC_c (by decide) (by decide) hi) (fun _ => ?_) | refine Fr_mset (fun _ hi => PC_n (by decide) hi) (fun _ => ?_) | refine Fr_bnd (fun _ => ?_) | refine Fr_bd ?_ (fun _ _ => ?_) | apply frd_X8_moveLaterOrCancel | apply frd_X8_repair_B71 | assumption | decide | intro _)

theorem frd_X8_repair_L49 (kx1 : Int32 → Mem → Ans) (hx1 : ∀ (b2 : Int32) (M0 : Mem), Fr PC M0 (kx1 b2 M0)) : ∀ (n : Nat) (a1 : Int32) (a2 : Int32) (a3 : Int32) (M : Mem), Fr PC M (d_X8_repair_L49 kx1 n a1 a2 a3 M) := by
  intro n
  induction n with
  | zero => intro a1 a2 a3 M; exact Fr_none
  | succ n ih => intro a1 a2 a3 M; exact frd_X8_repair_L49_body kx1 _ a1 a2 a3 hx1 ih M

theorem frd_X8_repair (M : Mem) : Fr PC M (d_X8_repair M) := by
  unfold d_X8_repair
  with_reducible repeat' (first | exact Fr_some | refine Fr_ite ?_ ?_ | refine Fr_chk ?_ | refine Fr_nar ?_ | refine Fr_stk (fun _ _ => ?_) | refine Fr_mup (fun _ hi => PC_s (by assumption) (by decide) hi) (fun _ => ?_) | refine Fr_mup (fun _ hi => PC_s (by decide) (by decide) hi) (fun _ => ?_) | refine Fr_mup (fun _ hi => PC_c (by assumption) (by decide) hi) (fun _ => ?_) | refine Fr_mup (fun _ hi => PC_c (by decide) (by decide) hi) (fun _ => ?_) | refine Fr_mup (fun _ hi => PC_n (by decide) hi) (fun _ => ?_) | refine Fr_mset (fun _ hi => PC_s (by assumption) (by decide) hi) (fun _ => ?_) | refine Fr_mset (fun _ hi => PC_s (by decide) (by decide) hi) (fun _ => ?_) | refine Fr_mset (fun _ hi => PC_c (by assumption) (by decide) hi) (fun _ => ?_) | refine Fr_mset (fun _ hi => PC_c (by decide) (by decide) hi) (fun _ => ?_) | refine Fr_mset (fun _ hi => PC_n (by decide) hi) (fun _ => ?_) | refine Fr_bnd (fun _ => ?_) | refine Fr_bd ?_ (fun _ _ => ?_) | apply frd_X8_repair_L2 | apply frd_X8_firstToRepair | apply frd_X2_push | apply frd_X8_repair_L49 | assumption | decide | intro _)

theorem frd_X8_wish_B128 (a1 : Int32) (a2 : Int32) (a3 : Int32) (M : Mem) : Fr PC M (d_X8_wish_B128 a1 a2 a3 M) := by
  unfold d_X8_wish_B128
  with_reducible repeat' (first | exact Fr_some | refine Fr_ite ?_ ?_ | refine Fr_chk ?_ | refine Fr_nar ?_ | refine Fr_stk (fun _ _ => ?_) | refine Fr_mup (fun _ hi => PC_s (by assumption) (by decide) hi) (fun _ => ?_) | refine Fr_mup (fun _ hi => PC_s (by decide) (by decide) hi) (fun _ => ?_) | refine Fr_mup (fun _ hi => PC_c (by assumption) (by decide) hi) (fun _ => ?_) | refine Fr_mup (fun _ hi => PC_c (by decide) (by decide) hi) (fun _ => ?_) | refine Fr_mup (fun _ hi => PC_n (by decide) hi) (fun _ => ?_) | refine Fr_mset (fun _ hi => PC_s (by assumption) (by decide) hi) (fun _ => ?_) | refine Fr_mset (fun _ hi => PC_s (by decide) (by decide) hi) (fun _ => ?_) | refine Fr_mset (fun _ hi => PC_c (by assumption) (by decide) hi) (fun _ => ?_) | refine Fr_mset (fun _ hi => PC_c (by decide) (by decide) hi) (fun _ => ?_) | refine Fr_mset (fun _ hi => PC_n (by decide) hi) (fun _ => ?_) | refine Fr_bnd (fun _ => ?_) | refine Fr_bd ?_ (fun _ _ => ?_) | apply frd_X2_push | apply frd_X7_append | assumption | decide | intro _)

theorem frd_X8_wish (p1 : Int32) (p2 : Int32) (p3 : Int32) (M : Mem) : Fr PC M (d_X8_wish p1 p2 p3 M) := by
  unfold d_X8_wish
  with_reducible repeat' (first | exact Fr_some | refine Fr_ite ?_ ?_ | refine Fr_chk ?_ | refine Fr_nar ?_ | refine Fr_stk (fun _ _ => ?_) | refine Fr_mup (fun _ hi => PC_s (by assumption) (by decide) hi) (fun _ => ?_) | refine Fr_mup (fun _ hi => PC_s (by decide) (by decide) hi) (fun _ => ?_) | refine Fr_mup (fun _ hi => PC_c (by assumption) (by decide) hi) (fun _ => ?_) | refine Fr_mup (fun _ hi => PC_c (by decide) (by decide) hi) (fun _ => ?_) | refine Fr_mup (fun _ hi => PC_n (by decide) hi) (fun _ => ?_) | refine Fr_mset (fun _ hi => PC_s (by assumption) (by decide) hi) (fun _ => ?_) | refine Fr_mset (fun _ hi => PC_s (by decide) (by decide) hi) (fun _ => ?_) | refine Fr_mset (fun _ hi => PC_c (by assumption) (by decide) hi) (fun _ => ?_) | refine Fr_mset (fun _ hi => PC_c (by decide) (by decide) hi) (fun _ => ?_) | refine Fr_mset (fun _ hi => PC_n (by decide) hi) (fun _ => ?_) | refine Fr_bnd (fun _ => ?_) | refine Fr_bd ?_ (fun _ _ => ?_) | apply frd_X8_isRobot | apply frd_X4_has | apply frd_X5_canStart | apply frd_X3_firstFit | apply frd_X8_wish_B128 | apply frd_X2_push | apply frd_X0_append | assumption | decide | intro _)

theorem frd_X8_unwish (p1 : Int32) (M : Mem) : Fr PC M (d_X8_unwish p1 M) := by
  unfold d_X8_unwish
  with_reducible repeat' (first | exact Fr_some | refine Fr_ite ?_ ?_ | refine Fr_chk ?_ | refine Fr_nar ?_ | refine Fr_stk (fun _ _ => ?_) | refine Fr_mup (fun _ hi => PC_s (by assumption) (by decide) hi) (fun _ => ?_) | refine Fr_mup (fun _ hi => PC_s (by decide) (by decide) hi) (fun _ => ?_) | refine Fr_mup (fun _ hi => PC_c (by assumption) (by decide) hi) (fun _ => ?_) | refine Fr_mup (fun _ hi => PC_c (by decide) (by decide) hi) (fun _ => ?_) | refine Fr_mup (fun _ hi => PC_n (by decide) hi) (fun _ => ?_) | refine Fr_mset (fun _ hi => PC_s (by assumption) (by decide) hi) (fun _ => ?_) | refine Fr_mset (fun _ hi => PC_s (by decide) (by decide) hi) (fun _ => ?_) | refine Fr_mset (fun _ hi => PC_c (by assumption) (by decide) hi) (fun _ => ?_) | refine Fr_mset (fun _ hi => PC_c (by decide) (by decide) hi) (fun _ => ?_) | refine Fr_mset (fun _ hi => PC_n (by decide) hi) (fun _ => ?_) | refine Fr_bnd (fun _ => ?_) | refine Fr_bd ?_ (fun _ _ => ?_) | apply frd_X7_has | apply frd_X2_push | apply frd_X7_takeOut | assumption | decide | intro _)

theorem frd_X8_takeOver_B86 (q1 : Nat) (kx1 : Int32 → Mem → Ans) (kb : Int32 → Int32 → Mem → Ans) (a2 : Int32) (a3 : Int32) (hq1 : q1 < 2) (hx1 : ∀ (b2 : Int32) (M0 : Mem), Fr PC M0 (kx1 b2 M0)) (hb : ∀ (b2 : Int32) (b3 : Int32) (M0 : Mem), Fr PC M0 (kb b2 b3 M0)) (M : Mem) : Fr PC M (d_X8_takeOver_B86 q1 kx1 kb a2 a3 M) := by
  unfold d_X8_takeOver_B86
  with_reducible repeat' (first | exact Fr_some | exact hx1 _ _ | exact hb _ _ _ | refine Fr_ite ?_ ?_ | refine Fr_chk ?_ | refine Fr_nar ?_ | refine Fr_stk (fun _ _ => ?_) | refine Fr_mup (fun _ hi => PC_s (by assumption) (by decide) hi) (fun _ => ?_) | refine Fr_mup (fun _ hi => PC_s (by decide) (by decide) hi) (fun _ => ?_) | refine Fr_mup (fun _ hi => PC_c (by assumption) (by decide) hi) (fun _ => ?_) | refine Fr_mup (fun _ hi => PC_c (by decide) (by decide) hi) (fun _ => ?_) | refine Fr_mup (fun _ hi => PC_n (by decide) hi) (fun _ => ?_) | refine Fr_mset (fun _ hi => PC_s (by assumption) (by decide) hi) (fun _ => ?_) | refine Fr_mset (fun _ hi => PC_s (by decide) (by decide) hi) (fun _ => ?_) | refine Fr_mset (fun _ hi => PC_c (by assumption) (by decide) hi) (fun _ => ?_) | refine Fr_mset (fun _ hi => PC_c (by decide) (by decide) hi) (fun _ => ?_) | refine Fr_mset (fun _ hi => PC_n (by decide) hi) (fun _ => ?_) | refine Fr_bnd (fun _ => ?_) | refine Fr_bd ?_ (fun _ _ => ?_) | assumption | decide | intro _)

theorem frd_X8_takeOver_B73 (q1 : Nat) (kx1 : Int32 → Mem → Ans) (kb : Int32 → Int32 → Mem → Ans) (a2 : Int32) (a3 : Int32) (hq1 : q1 < 2) (hx1 : ∀ (b2 : Int32) (M0 : Mem), Fr PC M0 (kx1 b2 M0)) (hb : ∀ (b2 : Int32) (b3 : Int32) (M0 : Mem), Fr PC M0 (kb b2 b3 M0)) (M : Mem) : Fr PC M (d_X8_takeOver_B73 q1 kx1 kb a2 a3 M) := by
  unfold d_X8_takeOver_B73
  with_reducible repeat' (first | exact Fr_some | exact hx1 _ _ | exact hb _ _ _ | refine Fr_ite ?_ ?_ | refine Fr_chk ?_ | refine Fr_nar ?_ | refine Fr_stk (fun _ _ => ?_) | refine Fr_mup (fun _ hi => PC_s (by assumption) (by decide) hi) (fun _ => ?_) | refine Fr_mup (fun _ hi => PC_s (by decide) (by decide) hi) (fun _ => ?_) | refine Fr_mup (fun _ hi => PC_c (by assumption) (by decide) hi) (fun _ => ?_) | refine Fr_mup (fun _ hi => PC_c (by decide) (by decide) hi) (fun _ => ?_) | refine Fr_mup (fun _ hi => PC_n (by decide) hi) (fun _ => ?_) | refine Fr_mset (fun _ hi => PC_s (by assumption) (by decide) hi) (fun _ => ?_) | refine Fr_mset (fun _ hi => PC_s (by decide) (by decide) hi) (fun _ => ?_) | refine Fr_mset (fun _ hi => PC_c (by assumption) (by decide) hi) (fun _ => ?_) | refine Fr_mset (fun _ hi => PC_c (by decide) (by decide) hi) (fun _ => ?_) | refine Fr_mset (fun _ hi => PC_n (by decide) hi) (fun _ => ?_) | refine Fr_bnd (fun _ => ?_) | refine Fr_bd ?_ (fun _ _ => ?_) | apply frd_X8_takeOver_B86 | assumption | decide | intro _)

theorem frd_X8_takeOver_L4_body (q1 : Nat) (kx1 : Int32 → Mem → Ans) (kb : Int32 → Int32 → Mem → Ans) (a2 : Int32) (a3 : Int32) (hq1 : q1 < 2) (hx1 : ∀ (b2 : Int32) (M0 : Mem), Fr PC M0 (kx1 b2 M0)) (hb : ∀ (b2 : Int32) (b3 : Int32) (M0 : Mem), Fr PC M0 (kb b2 b3 M0)) (M : Mem) : Fr PC M (d_X8_takeOver_L4_body q1 kx1 kb a2 a3 M) := by
  unfold d_X8_takeOver_L4_body
  with_reducible repeat' (first | exact Fr_some | exact hx1 _ _ | exact hb _ _ _ | refine Fr_ite ?_ ?_ | refine Fr_chk ?_ | refine Fr_nar ?_ | refine Fr_stk (fun _ _ => ?_) | refine Fr_mup (fun _ hi => PC_s (by assumption) (by decide) hi) (fun _ => ?_) | refine Fr_mup (fun _ hi => PC_s (by decide) (by decide) hi) (fun _ => ?_) | refine Fr_mup (fun _ hi => PC_c (by assumption) (by decide) hi) (fun _ => ?_) | refine Fr_mup (fun _ hi => PC_c (by decide) (by decide) hi) (fun _ => ?_) | refine Fr_mup (fun _ hi => PC_n (by decide) hi) (fun _ => ?_) | refine Fr_mset (fun _ hi => PC_s (by assumption) (by decide) hi) (fun _ => ?_) | refine Fr_mset (fun _ hi => PC_s (by decide) (by decide) hi) (fun _ => ?_) | refine Fr_mset (fun _ hi => PC_c (by assumption) (by decide) hi) (fun _ => ?_) | refine Fr_mset (fun _ hi => PC_c (by decide) (by decide) hi) (fun _ => ?_) | refine Fr_mset (fun _ hi => PC_n (by decide) hi) (fun _ => ?_) | refine Fr_bnd (fun _ => ?_) | refine Fr_bd ?_ (fun _ _ => ?_) | apply frd_X0_has | apply frd_X8_takeOver_B73 | assumption | decide | intro _)

theorem frd_X8_takeOver_L4 (q1 : Nat) (kx1 : Int32 → Mem → Ans) (hq1 : q1 < 2) (hx1 : ∀ (b2 : Int32) (M0 : Mem), Fr PC M0 (kx1 b2 M0)) : ∀ (n : Nat) (a2 : Int32) (a3 : Int32) (M : Mem), Fr PC M (d_X8_takeOver_L4 q1 kx1 n a2 a3 M) := by
  intro n
  induction n with
  | zero => intro a2 a3 M; exact Fr_none
  | succ n ih => intro a2 a3 M; exact frd_X8_takeOver_L4_body q1 kx1 _ a2 a3 hq1 hx1 ih M

theorem frd_X8_takeOver (q1 : Nat) (hq1 : q1 < 2) (M : Mem) : Fr PC M (d_X8_takeOver q1 M) := by
  unfold d_X8_takeOver
  with_reducible repeat' (first | exact Fr_some | refine Fr_ite ?_ ?_ | refine Fr_chk ?_ | refine Fr_nar ?_ | refine Fr_stk (fun _ _ => ?_) | refine Fr_mup (fun _ hi => PC_s (by assumption) (by decide) hi) (fun _ => ?_) | refine Fr_mup (fun _ hi => PC_s (by decide) (by decide) hi) (fun _ => ?_) | refine Fr_mup (fun _ hi => PC_c (by assumption) (by decide) hi) (fun _ => ?_) | refine Fr_mup (fun _ hi => PC_c (by decide) (by decide) hi) (fun _ => ?_) | refine Fr_mup (fun _ hi => PC_n (by decide) hi) (fun _ => ?_) | refine Fr_mset (fun _ hi => PC_s (by assumption) (by decide) hi) (fun _ => ?_) | refine Fr_mset (fun _ hi => PC_s (by decide) (by decide) hi) (fun _ => ?_) | refine Fr_mset (fun _ hi => PC_c (by assumption) (by decide) hi) (fun _ => ?_) | refine Fr_mset (fun _ hi => PC_c (by decide) (by decide) hi) (fun _ => ?_) | refine Fr_mset (fun _ hi => PC_n (by decide) hi) (fun _ => ?_) | refine Fr_bnd (fun _ => ?_) | refine Fr_bd ?_ (fun _ _ => ?_) | apply frd_X8_takeOver_L4 | apply frd_X7_dropUntil | assumption | decide | intro _)

theorem frd_X8_pass (p1 : Int32) (M : Mem) : Fr PC M (d_X8_pass p1 M) := by
  unfold d_X8_pass
  with_reducible repeat' (first | exact Fr_some | refine Fr_ite ?_ ?_ | refine Fr_chk ?_ | refine Fr_nar ?_ | refine Fr_stk (fun _ _ => ?_) | refine Fr_mup (fun _ hi => PC_s (by assumption) (by decide) hi) (fun _ => ?_) | refine Fr_mup (fun _ hi => PC_s (by decide) (by decide) hi) (fun _ => ?_) | refine Fr_mup (fun _ hi => PC_c (by assumption) (by decide) hi) (fun _ => ?_) | refine Fr_mup (fun _ hi => PC_c (by decide) (by decide) hi) (fun _ => ?_) | refine Fr_mup (fun _ hi => PC_n (by decide) hi) (fun _ => ?_) | refine Fr_mset (fun _ hi => PC_s (by assumption) (by decide) hi) (fun _ => ?_) | refine Fr_mset (fun _ hi => PC_s (by decide) (by decide) hi) (fun _ => ?_) | refine Fr_mset (fun _ hi => PC_c (by assumption) (by decide) hi) (fun _ => ?_) | refine Fr_mset (fun _ hi => PC_c (by decide) (by decide) hi) (fun _ => ?_) | refine Fr_mset (fun _ hi => PC_n (by decide) hi) (fun _ => ?_) | refine Fr_bnd (fun _ => ?_) | refine Fr_bd ?_ (fun _ _ => ?_) | apply frd_X8_within | apply frd_X2_push | apply frd_X1_begin | apply frd_X1_passTicks | apply frd_X8_takeOver | assumption | decide | intro _)

theorem frd_X8_type (p1 : Int32) (M : Mem) : Fr PC M (d_X8_type p1 M) := by
  unfold d_X8_type
  with_reducible repeat' (first | exact Fr_some | refine Fr_ite ?_ ?_ | refine Fr_chk ?_ | refine Fr_nar ?_ | refine Fr_stk (fun _ _ => ?_) | refine Fr_mup (fun _ hi => PC_s (by assumption) (by decide) hi) (fun _ => ?_) | refine Fr_mup (fun _ hi => PC_s (by decide) (by decide) hi) (fun _ => ?_) | refine Fr_mup (fun _ hi => PC_c (by assumption) (by decide) hi) (fun _ => ?_) | refine Fr_mup (fun _ hi => PC_c (by decide) (by decide) hi) (fun _ => ?_) | refine Fr_mup (fun _ hi => PC_n (by decide) hi) (fun _ => ?_) | refine Fr_mset (fun _ hi => PC_s (by assumption) (by decide) hi) (fun _ => ?_) | refine Fr_mset (fun _ hi => PC_s (by decide) (by decide) hi) (fun _ => ?_) | refine Fr_mset (fun _ hi => PC_c (by assumption) (by decide) hi) (fun _ => ?_) | refine Fr_mset (fun _ hi => PC_c (by decide) (by decide) hi) (fun _ => ?_) | refine Fr_mset (fun _ hi => PC_n (by decide) hi) (fun _ => ?_) | refine Fr_bnd (fun _ => ?_) | refine Fr_bd ?_ (fun _ _ => ?_) | apply frd_X6_append | assumption | decide | intro _)

theorem frd_X8_clearText (M : Mem) : Fr PC M (d_X8_clearText M) := by
  unfold d_X8_clearText
  with_reducible repeat' (first | exact Fr_some | refine Fr_ite ?_ ?_ | refine Fr_chk ?_ | refine Fr_nar ?_ | refine Fr_stk (fun _ _ => ?_) | refine Fr_mup (fun _ hi => PC_s (by assumption) (by decide) hi) (fun _ => ?_) | refine Fr_mup (fun _ hi => PC_s (by decide) (by decide) hi) (fun _ => ?_) | refine Fr_mup (fun _ hi => PC_c (by assumption) (by decide) hi) (fun _ => ?_) | refine Fr_mup (fun _ hi => PC_c (by decide) (by decide) hi) (fun _ => ?_) | refine Fr_mup (fun _ hi => PC_n (by decide) hi) (fun _ => ?_) | refine Fr_mset (fun _ hi => PC_s (by assumption) (by decide) hi) (fun _ => ?_) | refine Fr_mset (fun _ hi => PC_s (by decide) (by decide) hi) (fun _ => ?_) | refine Fr_mset (fun _ hi => PC_c (by assumption) (by decide) hi) (fun _ => ?_) | refine Fr_mset (fun _ hi => PC_c (by decide) (by decide) hi) (fun _ => ?_) | refine Fr_mset (fun _ hi => PC_n (by decide) hi) (fun _ => ?_) | refine Fr_bnd (fun _ => ?_) | refine Fr_bd ?_ (fun _ _ => ?_) | assumption | decide | intro _)

theorem frd_X8_bookAll_L31_body (kx1 : Mem → Ans) (kb : Int32 → Mem → Ans) (a2 : Int32) (hx1 : ∀ (M0 : Mem), Fr PC M0 (kx1 M0)) (hb : ∀ (b2 : Int32) (M0 : Mem), Fr PC M0 (kb b2 M0)) (M : Mem) : Fr PC M (d_X8_bookAll_L31_body kx1 kb a2 M) := by
  unfold d_X8_bookAll_L31_body
  with_reducible repeat' (first | exact Fr_some | exact hx1 _ | exact hb _ _ | refine Fr_ite ?_ ?_ | refine Fr_chk ?_ | refine Fr_nar ?_ | refine Fr_stk (fun _ _ => ?_) | refine Fr_mup (fun _ hi => PC_s (by assumption) (by decide) hi) (fun _ => ?_) | refine Fr_mup (fun _ hi => PC_s (by decide) (by decide) hi) (fun _ => ?_) | refine Fr_mup (fun _ hi => PC_c (by assumption) (by decide) hi) (fun _ => ?_) | refine Fr_mup (fun _ hi => PC_c (by decide) (by decide) hi) (fun _ => ?_) | refine Fr_mup (fun _ hi => PC_n (by decide) hi) (fun _ => ?_) | refine Fr_mset (fun _ hi => PC_s (by assumption) (by decide) hi) (fun _ => ?_) | refine Fr_mset (fun _ hi => PC_s (by decide) (by decide) hi) (fun _ => ?_) | refine Fr_mset (fun _ hi => PC_c (by assumption) (by decide) hi) (fun _ => ?_) | refine Fr_mset (fun _ hi => PC_c (by decide) (by decide) hi) (fun _ => ?_) | refine Fr_mset (fun _ hi => PC_n (by decide) hi) (fun _ => ?_) | refine Fr_bnd (fun _ => ?_) | refine Fr_bd ?_ (fun _ _ => ?_) | apply frd_X8_errorOfBooking | apply frd_X0_append | apply frd_X5_copyFrom | assumption | decide | intro _)

theorem frd_X8_bookAll_L31 (kx1 : Mem → Ans) (hx1 : ∀ (M0 : Mem), Fr PC M0 (kx1 M0)) : ∀ (n : Nat) (a2 : Int32) (M : Mem), Fr PC M (d_X8_bookAll_L31 kx1 n a2 M) := by
  intro n
  induction n with
  | zero => intro a2 M; exact Fr_none
  | succ n ih => intro a2 M; exact frd_X8_bookAll_L31_body kx1 _ a2 hx1 ih M

theorem frd_X8_bookAll (M : Mem) : Fr PC M (d_X8_bookAll M) := by
  unfold d_X8_bookAll
  with_reducible repeat' (first | exact Fr_some | refine Fr_ite ?_ ?_ | refine Fr_chk ?_ | refine Fr_nar ?_ | refine Fr_stk (fun _ _ => ?_) | refine Fr_mup (fun _ hi => PC_s (by assumption) (by decide) hi) (fun _ => ?_) | refine Fr_mup (fun _ hi => PC_s (by decide) (by decide) hi) (fun _ => ?_) | refine Fr_mup (fun _ hi => PC_c (by assumption) (by decide) hi) (fun _ => ?_) | refine Fr_mup (fun _ hi => PC_c (by decide) (by decide) hi) (fun _ => ?_) | refine Fr_mup (fun _ hi => PC_n (by decide) hi) (fun _ => ?_) | refine Fr_mset (fun _ hi => PC_s (by assumption) (by decide) hi) (fun _ => ?_) | refine Fr_mset (fun _ hi => PC_s (by decide) (by decide) hi) (fun _ => ?_) | refine Fr_mset (fun _ hi => PC_c (by assumption) (by decide) hi) (fun _ => ?_) | refine Fr_mset (fun _ hi => PC_c (by decide) (by decide) hi) (fun _ => ?_) | refine Fr_mset (fun _ hi => PC_n (by decide) hi) (fun _ => ?_) | refine Fr_bnd (fun _ => ?_) | refine Fr_bd ?_ (fun _ _ => ?_) | apply frd_X6_read | apply frd_X5_copyFrom | apply frd_X8_bookAll_L31 | apply frd_X2_push | assumption | decide | intro _)

theorem frd_X8_undo (M : Mem) : Fr PC M (d_X8_undo M) := by
  unfold d_X8_undo
  with_reducible repeat' (first | exact Fr_some | refine Fr_ite ?_ ?_ | refine Fr_chk ?_ | refine Fr_nar ?_ | refine Fr_stk (fun _ _ => ?_) | refine Fr_mup (fun _ hi => PC_s (by assumption) (by decide) hi) (fun _ => ?_) | refine Fr_mup (fun _ hi => PC_s (by decide) (by decide) hi) (fun _ => ?_) | refine Fr_mup (fun _ hi => PC_c (by assumption) (by decide) hi) (fun _ => ?_) | refine Fr_mup (fun _ hi => PC_c (by decide) (by decide) hi) (fun _ => ?_) | refine Fr_mup (fun _ hi => PC_n (by decide) hi) (fun _ => ?_) | refine Fr_mset (fun _ hi => PC_s (by assumption) (by decide) hi) (fun _ => ?_) | refine Fr_mset (fun _ hi => PC_s (by decide) (by decide) hi) (fun _ => ?_) | refine Fr_mset (fun _ hi => PC_c (by assumption) (by decide) hi) (fun _ => ?_) | refine Fr_mset (fun _ hi => PC_c (by decide) (by decide) hi) (fun _ => ?_) | refine Fr_mset (fun _ hi => PC_n (by decide) hi) (fun _ => ?_) | refine Fr_bnd (fun _ => ?_) | refine Fr_bd ?_ (fun _ _ => ?_) | apply frd_X2_popInto | assumption | decide | intro _)

theorem frd_X8_keep (M : Mem) : Fr PC M (d_X8_keep M) := by
  unfold d_X8_keep
  with_reducible repeat' (first | exact Fr_some | refine Fr_ite ?_ ?_ | refine Fr_chk ?_ | refine Fr_nar ?_ | refine Fr_stk (fun _ _ => ?_) | refine Fr_mup (fun _ hi => PC_s (by assumption) (by decide) hi) (fun _ => ?_) | refine Fr_mup (fun _ hi => PC_s (by decide) (by decide) hi) (fun _ => ?_) | refine Fr_mup (fun _ hi => PC_c (by assumption) (by decide) hi) (fun _ => ?_) | refine Fr_mup (fun _ hi => PC_c (by decide) (by decide) hi) (fun _ => ?_) | refine Fr_mup (fun _ hi => PC_n (by decide) hi) (fun _ => ?_) | refine Fr_mset (fun _ hi => PC_s (by assumption) (by decide) hi) (fun _ => ?_) | refine Fr_mset (fun _ hi => PC_s (by decide) (by decide) hi) (fun _ => ?_) | refine Fr_mset (fun _ hi => PC_c (by assumption) (by decide) hi) (fun _ => ?_) | refine Fr_mset (fun _ hi => PC_c (by decide) (by decide) hi) (fun _ => ?_) | refine Fr_mset (fun _ hi => PC_n (by decide) hi) (fun _ => ?_) | refine Fr_bnd (fun _ => ?_) | refine Fr_bd ?_ (fun _ _ => ?_) | apply frd_X5_copyFrom | assumption | decide | intro _)

theorem frd_X8_restore (M : Mem) : Fr PC M (d_X8_restore M) := by
  unfold d_X8_restore
  with_reducible repeat' (first | exact Fr_some | refine Fr_ite ?_ ?_ | refine Fr_chk ?_ | refine Fr_nar ?_ | refine Fr_stk (fun _ _ => ?_) | refine Fr_mup (fun _ hi => PC_s (by assumption) (by decide) hi) (fun _ => ?_) | refine Fr_mup (fun _ hi => PC_s (by decide) (by decide) hi) (fun _ => ?_) | refine Fr_mup (fun _ hi => PC_c (by assumption) (by decide) hi) (fun _ => ?_) | refine Fr_mup (fun _ hi => PC_c (by decide) (by decide) hi) (fun _ => ?_) | refine Fr_mup (fun _ hi => PC_n (by decide) hi) (fun _ => ?_) | refine Fr_mset (fun _ hi => PC_s (by assumption) (by decide) hi) (fun _ => ?_) | refine Fr_mset (fun _ hi => PC_s (by decide) (by decide) hi) (fun _ => ?_) | refine Fr_mset (fun _ hi => PC_c (by assumption) (by decide) hi) (fun _ => ?_) | refine Fr_mset (fun _ hi => PC_c (by decide) (by decide) hi) (fun _ => ?_) | refine Fr_mset (fun _ hi => PC_n (by decide) hi) (fun _ => ?_) | refine Fr_bnd (fun _ => ?_) | refine Fr_bd ?_ (fun _ _ => ?_) | apply frd_X2_push | apply frd_X5_copyFrom | assumption | decide | intro _)

theorem frd_X8_recipe (p1 : Int32) (p2 : Int32) (M : Mem) : Fr PC M (d_X8_recipe p1 p2 M) := by
  unfold d_X8_recipe
  with_reducible repeat' (first | exact Fr_some | refine Fr_ite ?_ ?_ | refine Fr_chk ?_ | refine Fr_nar ?_ | refine Fr_stk (fun _ _ => ?_) | refine Fr_mup (fun _ hi => PC_s (by assumption) (by decide) hi) (fun _ => ?_) | refine Fr_mup (fun _ hi => PC_s (by decide) (by decide) hi) (fun _ => ?_) | refine Fr_mup (fun _ hi => PC_c (by assumption) (by decide) hi) (fun _ => ?_) | refine Fr_mup (fun _ hi => PC_c (by decide) (by decide) hi) (fun _ => ?_) | refine Fr_mup (fun _ hi => PC_n (by decide) hi) (fun _ => ?_) | refine Fr_mset (fun _ hi => PC_s (by assumption) (by decide) hi) (fun _ => ?_) | refine Fr_mset (fun _ hi => PC_s (by decide) (by decide) hi) (fun _ => ?_) | refine Fr_mset (fun _ hi => PC_c (by assumption) (by decide) hi) (fun _ => ?_) | refine Fr_mset (fun _ hi => PC_c (by decide) (by decide) hi) (fun _ => ?_) | refine Fr_mset (fun _ hi => PC_n (by decide) hi) (fun _ => ?_) | refine Fr_bnd (fun _ => ?_) | refine Fr_bd ?_ (fun _ _ => ?_) | apply frd_X4_has | apply frd_X0_doneOfRecipe | assumption | decide | intro _)

theorem frd_X8_robot (p1 : Int32) (p2 : Int32) (M : Mem) : Fr PC M (d_X8_robot p1 p2 M) := by
  unfold d_X8_robot
  with_reducible repeat' (first | exact Fr_some | refine Fr_ite ?_ ?_ | refine Fr_chk ?_ | refine Fr_nar ?_ | refine Fr_stk (fun _ _ => ?_) | refine Fr_mup (fun _ hi => PC_s (by assumption) (by decide) hi) (fun _ => ?_) | refine Fr_mup (fun _ hi => PC_s (by decide) (by decide) hi) (fun _ => ?_) | refine Fr_mup (fun _ hi => PC_c (by assumption) (by decide) hi) (fun _ => ?_) | refine Fr_mup (fun _ hi => PC_c (by decide) (by decide) hi) (fun _ => ?_) | refine Fr_mup (fun _ hi => PC_n (by decide) hi) (fun _ => ?_) | refine Fr_mset (fun _ hi => PC_s (by assumption) (by decide) hi) (fun _ => ?_) | refine Fr_mset (fun _ hi => PC_s (by decide) (by decide) hi) (fun _ => ?_) | refine Fr_mset (fun _ hi => PC_c (by assumption) (by decide) hi) (fun _ => ?_) | refine Fr_mset (fun _ hi => PC_c (by decide) (by decide) hi) (fun _ => ?_) | refine Fr_mset (fun _ hi => PC_n (by decide) hi) (fun _ => ?_) | refine Fr_bnd (fun _ => ?_) | refine Fr_bd ?_ (fun _ _ => ?_) | apply frd_X8_isRobot | apply frd_X0_ofRobot | apply frd_X5_isBusyIn | apply frd_X5_firstFreeTick | assumption | decide | intro _)

theorem frd_X8_stateInTheEnd (p1 : Int32) (M : Mem) : Fr PC M (d_X8_stateInTheEnd p1 M) := by
  unfold d_X8_stateInTheEnd
  with_reducible repeat' (first | exact Fr_some | refine Fr_ite ?_ ?_ | refine Fr_chk ?_ | refine Fr_nar ?_ | refine Fr_stk (fun _ _ => ?_) | refine Fr_mup (fun _ hi => PC_s (by assumption) (by decide) hi) (fun _ => ?_) | refine Fr_mup (fun _ hi => PC_s (by decide) (by decide) hi) (fun _ => ?_) | refine Fr_mup (fun _ hi => PC_c (by assumption) (by decide) hi) (fun _ => ?_) | refine Fr_mup (fun _ hi => PC_c (by decide) (by decide) hi) (fun _ => ?_) | refine Fr_mup (fun _ hi => PC_n (by decide) hi) (fun _ => ?_) | refine Fr_mset (fun _ hi => PC_s (by assumption) (by decide) hi) (fun _ => ?_) | refine Fr_mset (fun _ hi => PC_s (by decide) (by decide) hi) (fun _ => ?_) | refine Fr_mset (fun _ hi => PC_c (by assumption) (by decide) hi) (fun _ => ?_) | refine Fr_mset (fun _ hi => PC_c (by decide) (by decide) hi) (fun _ => ?_) | refine Fr_mset (fun _ hi => PC_n (by decide) hi) (fun _ => ?_) | refine Fr_bnd (fun _ => ?_) | refine Fr_bd ?_ (fun _ _ => ?_) | apply frd_X8_forecastToEnd | apply frd_X1_rowOf | apply frd_X0_stateOf | assumption | decide | intro _)

theorem frd_X8_tickOfSpoiling (p1 : Int32) (M : Mem) : Fr PC M (d_X8_tickOfSpoiling p1 M) := by
  unfold d_X8_tickOfSpoiling
  with_reducible repeat' (first | exact Fr_some | refine Fr_ite ?_ ?_ | refine Fr_chk ?_ | refine Fr_nar ?_ | refine Fr_stk (fun _ _ => ?_) | refine Fr_mup (fun _ hi => PC_s (by assumption) (by decide) hi) (fun _ => ?_) | refine Fr_mup (fun _ hi => PC_s (by decide) (by decide) hi) (fun _ => ?_) | refine Fr_mup (fun _ hi => PC_c (by assumption) (by decide) hi) (fun _ => ?_) | refine Fr_mup (fun _ hi => PC_c (by decide) (by decide) hi) (fun _ => ?_) | refine Fr_mup (fun _ hi => PC_n (by decide) hi) (fun _ => ?_) | refine Fr_mset (fun _ hi => PC_s (by assumption) (by decide) hi) (fun _ => ?_) | refine Fr_mset (fun _ hi => PC_s (by decide) (by decide) hi) (fun _ => ?_) | refine Fr_mset (fun _ hi => PC_c (by assumption) (by decide) hi) (fun _ => ?_) | refine Fr_mset (fun _ hi => PC_c (by decide) (by decide) hi) (fun _ => ?_) | refine Fr_mset (fun _ hi => PC_n (by decide) hi) (fun _ => ?_) | refine Fr_bnd (fun _ => ?_) | refine Fr_bd ?_ (fun _ _ => ?_) | apply frd_X8_forecastToEnd | apply frd_X1_rowOf | assumption | decide | intro _)

theorem frd_X8_leastSpare (p1 : Int32) (M : Mem) : Fr PC M (d_X8_leastSpare p1 M) := by
  unfold d_X8_leastSpare
  with_reducible repeat' (first | exact Fr_some | refine Fr_ite ?_ ?_ | refine Fr_chk ?_ | refine Fr_nar ?_ | refine Fr_stk (fun _ _ => ?_) | refine Fr_mup (fun _ hi => PC_s (by assumption) (by decide) hi) (fun _ => ?_) | refine Fr_mup (fun _ hi => PC_s (by decide) (by decide) hi) (fun _ => ?_) | refine Fr_mup (fun _ hi => PC_c (by assumption) (by decide) hi) (fun _ => ?_) | refine Fr_mup (fun _ hi => PC_c (by decide) (by decide) hi) (fun _ => ?_) | refine Fr_mup (fun _ hi => PC_n (by decide) hi) (fun _ => ?_) | refine Fr_mset (fun _ hi => PC_s (by assumption) (by decide) hi) (fun _ => ?_) | refine Fr_mset (fun _ hi => PC_s (by decide) (by decide) hi) (fun _ => ?_) | refine Fr_mset (fun _ hi => PC_c (by assumption) (by decide) hi) (fun _ => ?_) | refine Fr_mset (fun _ hi => PC_c (by decide) (by decide) hi) (fun _ => ?_) | refine Fr_mset (fun _ hi => PC_n (by decide) hi) (fun _ => ?_) | refine Fr_bnd (fun _ => ?_) | refine Fr_bd ?_ (fun _ _ => ?_) | apply frd_X8_forecastToEnd | apply frd_X1_rowOf | assumption | decide | intro _)

theorem frd_X8_booking (p1 : Int32) (p2 : Int32) (M : Mem) : Fr PC M (d_X8_booking p1 p2 M) := by
  unfold d_X8_booking
  with_reducible repeat' (first | exact Fr_some | refine Fr_ite ?_ ?_ | refine Fr_chk ?_ | refine Fr_nar ?_ | refine Fr_stk (fun _ _ => ?_) | refine Fr_mup (fun _ hi => PC_s (by assumption) (by decide) hi) (fun _ => ?_) | refine Fr_mup (fun _ hi => PC_s (by decide) (by decide) hi) (fun _ => ?_) | refine Fr_mup (fun _ hi => PC_c (by assumption) (by decide) hi) (fun _ => ?_) | refine Fr_mup (fun _ hi => PC_c (by decide) (by decide) hi) (fun _ => ?_) | refine Fr_mup (fun _ hi => PC_n (by decide) hi) (fun _ => ?_) | refine Fr_mset (fun _ hi => PC_s (by assumption) (by decide) hi) (fun _ => ?_) | refine Fr_mset (fun _ hi => PC_s (by decide) (by decide) hi) (fun _ => ?_) | refine Fr_mset (fun _ hi => PC_c (by assumption) (by decide) hi) (fun _ => ?_) | refine Fr_mset (fun _ hi => PC_c (by decide) (by decide) hi) (fun _ => ?_) | refine Fr_mset (fun _ hi => PC_n (by decide) hi) (fun _ => ?_) | refine Fr_bnd (fun _ => ?_) | refine Fr_bd ?_ (fun _ _ => ?_) | apply frd_X0_has | apply frd_X8_stateInTheEnd | apply frd_X8_tickOfSpoiling | apply frd_X8_leastSpare | assumption | decide | intro _)

theorem frd_X8_wishTold (p1 : Int32) (p2 : Int32) (M : Mem) : Fr PC M (d_X8_wishTold p1 p2 M) := by
  unfold d_X8_wishTold
  with_reducible repeat' (first | exact Fr_some | refine Fr_ite ?_ ?_ | refine Fr_chk ?_ | refine Fr_nar ?_ | refine Fr_stk (fun _ _ => ?_) | refine Fr_mup (fun _ hi => PC_s (by assumption) (by decide) hi) (fun _ => ?_) | refine Fr_mup (fun _ hi => PC_s (by decide) (by decide) hi) (fun _ => ?_) | refine Fr_mup (fun _ hi => PC_c (by assumption) (by decide) hi) (fun _ => ?_) | refine Fr_mup (fun _ hi => PC_c (by decide) (by decide) hi) (fun _ => ?_) | refine Fr_mup (fun _ hi => PC_n (by decide) hi) (fun _ => ?_) | refine Fr_mset (fun _ hi => PC_s (by assumption) (by decide) hi) (fun _ => ?_) | refine Fr_mset (fun _ hi => PC_s (by decide) (by decide) hi) (fun _ => ?_) | refine Fr_mset (fun _ hi => PC_c (by assumption) (by decide) hi) (fun _ => ?_) | refine Fr_mset (fun _ hi => PC_c (by decide) (by decide) hi) (fun _ => ?_) | refine Fr_mset (fun _ hi => PC_n (by decide) hi) (fun _ => ?_) | refine Fr_bnd (fun _ => ?_) | refine Fr_bd ?_ (fun _ _ => ?_) | apply frd_X7_has | apply frd_X3_firstFit | assumption | decide | intro _)

theorem frd_X8_pressureIn (p1 : Int32) (M : Mem) : Fr PC M (d_X8_pressureIn p1 M) := by
  unfold d_X8_pressureIn
  with_reducible repeat' (first | exact Fr_some | refine Fr_ite ?_ ?_ | refine Fr_chk ?_ | refine Fr_nar ?_ | refine Fr_stk (fun _ _ => ?_) | refine Fr_mup (fun _ hi => PC_s (by assumption) (by decide) hi) (fun _ => ?_) | refine Fr_mup (fun _ hi => PC_s (by decide) (by decide) hi) (fun _ => ?_) | refine Fr_mup (fun _ hi => PC_c (by assumption) (by decide) hi) (fun _ => ?_) | refine Fr_mup (fun _ hi => PC_c (by decide) (by decide) hi) (fun _ => ?_) | refine Fr_mup (fun _ hi => PC_n (by decide) hi) (fun _ => ?_) | refine Fr_mset (fun _ hi => PC_s (by assumption) (by decide) hi) (fun _ => ?_) | refine Fr_mset (fun _ hi => PC_s (by decide) (by decide) hi) (fun _ => ?_) | refine Fr_mset (fun _ hi => PC_c (by assumption) (by decide) hi) (fun _ => ?_) | refine Fr_mset (fun _ hi => PC_c (by decide) (by decide) hi) (fun _ => ?_) | refine Fr_mset (fun _ hi => PC_n (by decide) hi) (fun _ => ?_) | refine Fr_bnd (fun _ => ?_) | refine Fr_bd ?_ (fun _ _ => ?_) | apply frd_X8_within | apply frd_X1_begin | apply frd_X1_passTicks | assumption | decide | intro _)

theorem frd_X8_lowestIn (p1 : Int32) (M : Mem) : Fr PC M (d_X8_lowestIn p1 M) := by
  unfold d_X8_lowestIn
  with_reducible repeat' (first | exact Fr_some | refine Fr_ite ?_ ?_ | refine Fr_chk ?_ | refine Fr_nar ?_ | refine Fr_stk (fun _ _ => ?_) | refine Fr_mup (fun _ hi => PC_s (by assumption) (by decide) hi) (fun _ => ?_) | refine Fr_mup (fun _ hi => PC_s (by decide) (by decide) hi) (fun _ => ?_) | refine Fr_mup (fun _ hi => PC_c (by assumption) (by decide) hi) (fun _ => ?_) | refine Fr_mup (fun _ hi => PC_c (by decide) (by decide) hi) (fun _ => ?_) | refine Fr_mup (fun _ hi => PC_n (by decide) hi) (fun _ => ?_) | refine Fr_mset (fun _ hi => PC_s (by assumption) (by decide) hi) (fun _ => ?_) | refine Fr_mset (fun _ hi => PC_s (by decide) (by decide) hi) (fun _ => ?_) | refine Fr_mset (fun _ hi => PC_c (by assumption) (by decide) hi) (fun _ => ?_) | refine Fr_mset (fun _ hi => PC_c (by decide) (by decide) hi) (fun _ => ?_) | refine Fr_mset (fun _ hi => PC_n (by decide) hi) (fun _ => ?_) | refine Fr_bnd (fun _ => ?_) | refine Fr_bd ?_ (fun _ _ => ?_) | apply frd_X8_within | apply frd_X1_begin | apply frd_X1_passTicks | assumption | decide | intro _)

theorem frd_X8_why (p1 : Int32) (p2 : Int32) (p3 : Int32) (p4 : Int32) (M : Mem) : Fr PC M (d_X8_why p1 p2 p3 p4 M) := by
  unfold d_X8_why
  with_reducible repeat' (first | exact Fr_some | refine Fr_ite ?_ ?_ | refine Fr_chk ?_ | refine Fr_nar ?_ | refine Fr_stk (fun _ _ => ?_) | refine Fr_mup (fun _ hi => PC_s (by assumption) (by decide) hi) (fun _ => ?_) | refine Fr_mup (fun _ hi => PC_s (by decide) (by decide) hi) (fun _ => ?_) | refine Fr_mup (fun _ hi => PC_c (by assumption) (by decide) hi) (fun _ => ?_) | refine Fr_mup (fun _ hi => PC_c (by decide) (by decide) hi) (fun _ => ?_) | refine Fr_mup (fun _ hi => PC_n (by decide) hi) (fun _ => ?_) | refine Fr_mset (fun _ hi => PC_s (by assumption) (by decide) hi) (fun _ => ?_) | refine Fr_mset (fun _ hi => PC_s (by decide) (by decide) hi) (fun _ => ?_) | refine Fr_mset (fun _ hi => PC_c (by assumption) (by decide) hi) (fun _ => ?_) | refine Fr_mset (fun _ hi => PC_c (by decide) (by decide) hi) (fun _ => ?_) | refine Fr_mset (fun _ hi => PC_n (by decide) hi) (fun _ => ?_) | refine Fr_bnd (fun _ => ?_) | refine Fr_bd ?_ (fun _ _ => ?_) | apply frd_X8_isRobot | apply frd_X4_has | apply frd_X5_canStart | apply frd_X8_within | apply frd_X3_reasonAgainst | assumption | decide | intro _)

theorem frd_X8_earliest (p1 : Int32) (p2 : Int32) (p3 : Int32) (M : Mem) : Fr PC M (d_X8_earliest p1 p2 p3 M) := by
  unfold d_X8_earliest
  with_reducible repeat' (first | exact Fr_some | refine Fr_ite ?_ ?_ | refine Fr_chk ?_ | refine Fr_nar ?_ | refine Fr_stk (fun _ _ => ?_) | refine Fr_mup (fun _ hi => PC_s (by assumption) (by decide) hi) (fun _ => ?_) | refine Fr_mup (fun _ hi => PC_s (by decide) (by decide) hi) (fun _ => ?_) | refine Fr_mup (fun _ hi => PC_c (by assumption) (by decide) hi) (fun _ => ?_) | refine Fr_mup (fun _ hi => PC_c (by decide) (by decide) hi) (fun _ => ?_) | refine Fr_mup (fun _ hi => PC_n (by decide) hi) (fun _ => ?_) | refine Fr_mset (fun _ hi => PC_s (by assumption) (by decide) hi) (fun _ => ?_) | refine Fr_mset (fun _ hi => PC_s (by decide) (by decide) hi) (fun _ => ?_) | refine Fr_mset (fun _ hi => PC_c (by assumption) (by decide) hi) (fun _ => ?_) | refine Fr_mset (fun _ hi => PC_c (by decide) (by decide) hi) (fun _ => ?_) | refine Fr_mset (fun _ hi => PC_n (by decide) hi) (fun _ => ?_) | refine Fr_bnd (fun _ => ?_) | refine Fr_bd ?_ (fun _ _ => ?_) | apply frd_X8_isRobot | apply frd_X4_has | apply frd_X5_canStart | apply frd_X3_firstFit | assumption | decide | intro _)

theorem frd_X8_count (p1 : Int32) (M : Mem) : Fr PC M (d_X8_count p1 M) := by
  unfold d_X8_count
  with_reducible repeat' (first | exact Fr_some | refine Fr_ite ?_ ?_ | refine Fr_chk ?_ | refine Fr_nar ?_ | refine Fr_stk (fun _ _ => ?_) | refine Fr_mup (fun _ hi => PC_s (by assumption) (by decide) hi) (fun _ => ?_) | refine Fr_mup (fun _ hi => PC_s (by decide) (by decide) hi) (fun _ => ?_) | refine Fr_mup (fun _ hi => PC_c (by assumption) (by decide) hi) (fun _ => ?_) | refine Fr_mup (fun _ hi => PC_c (by decide) (by decide) hi) (fun _ => ?_) | refine Fr_mup (fun _ hi => PC_n (by decide) hi) (fun _ => ?_) | refine Fr_mset (fun _ hi => PC_s (by assumption) (by decide) hi) (fun _ => ?_) | refine Fr_mset (fun _ hi => PC_s (by decide) (by decide) hi) (fun _ => ?_) | refine Fr_mset (fun _ hi => PC_c (by assumption) (by decide) hi) (fun _ => ?_) | refine Fr_mset (fun _ hi => PC_c (by decide) (by decide) hi) (fun _ => ?_) | refine Fr_mset (fun _ hi => PC_n (by decide) hi) (fun _ => ?_) | refine Fr_bnd (fun _ => ?_) | refine Fr_bd ?_ (fun _ _ => ?_) | apply frd_X8_within | apply frd_X8_countDoomed | apply frd_X0_inState | assumption | decide | intro _)

theorem frd_X9_in (p0 : Int32) (p1 : Int32) (p2 : Int32) (M : Mem) : Fr PR M (d_X9_in p0 p1 p2 M) := by
  unfold d_X9_in
  with_reducible repeat' (first | exact Fr_some | refine Fr_ite ?_ ?_ | refine Fr_chk ?_ | refine Fr_nar ?_ | refine Fr_stk (fun _ _ => ?_) | refine Fr_mup (fun _ hi => PR_n (by decide) hi) (fun _ => ?_) | refine Fr_mset (fun _ hi => PR_n (by decide) hi) (fun _ => ?_) | refine Fr_bnd (fun _ => ?_) | refine Fr_bd ?_ (fun _ _ => ?_) | assumption | decide | intro _)

theorem frd_X9_of (p1 : Int32) (p2 : Int32) (M : Mem) : Fr PR M (d_X9_of p1 p2 M) := by
  unfold d_X9_of
  with_reducible repeat' (first | exact Fr_some | refine Fr_ite ?_ ?_ | refine Fr_chk ?_ | refine Fr_nar ?_ | refine Fr_stk (fun _ _ => ?_) | refine Fr_mup (fun _ hi => PR_n (by decide) hi) (fun _ => ?_) | refine Fr_mset (fun _ hi => PR_n (by decide) hi) (fun _ => ?_) | refine Fr_bnd (fun _ => ?_) | refine Fr_bd ?_ (fun _ _ => ?_) | assumption | decide | intro _)

theorem frd_X9_puts (p1 : Int32) (p2 : Int32) (p3 : Int32) (M : Mem) : Fr PR M (d_X9_puts p1 p2 p3 M) := by
  unfold d_X9_puts
  with_reducible repeat' (first | exact Fr_some | refine Fr_ite ?_ ?_ | refine Fr_chk ?_ | refine Fr_nar ?_ | refine Fr_stk (fun _ _ => ?_) | refine Fr_mup (fun _ hi => PR_n (by decide) hi) (fun _ => ?_) | refine Fr_mset (fun _ hi => PR_n (by decide) hi) (fun _ => ?_) | refine Fr_bnd (fun _ => ?_) | refine Fr_bd ?_ (fun _ _ => ?_) | assumption | decide | intro _)

theorem frd_X9_ofRecipe (p1 : Int32) (p2 : Int32) (M : Mem) : Fr PR M (d_X9_ofRecipe p1 p2 M) := by
  unfold d_X9_ofRecipe
  with_reducible repeat' (first | exact Fr_some | refine Fr_ite ?_ ?_ | refine Fr_chk ?_ | refine Fr_nar ?_ | refine Fr_stk (fun _ _ => ?_) | refine Fr_mup (fun _ hi => PR_n (by decide) hi) (fun _ => ?_) | refine Fr_mset (fun _ hi => PR_n (by decide) hi) (fun _ => ?_) | refine Fr_bnd (fun _ => ?_) | refine Fr_bd ?_ (fun _ _ => ?_) | assumption | decide | intro _)

theorem frd_X9_ofWish (p1 : Int32) (p2 : Int32) (M : Mem) : Fr PR M (d_X9_ofWish p1 p2 M) := by
  unfold d_X9_ofWish
  with_reducible repeat' (first | exact Fr_some | refine Fr_ite ?_ ?_ | refine Fr_chk ?_ | refine Fr_nar ?_ | refine Fr_stk (fun _ _ => ?_) | refine Fr_mup (fun _ hi => PR_n (by decide) hi) (fun _ => ?_) | refine Fr_mset (fun _ hi => PR_n (by decide) hi) (fun _ => ?_) | refine Fr_bnd (fun _ => ?_) | refine Fr_bd ?_ (fun _ _ => ?_) | assumption | decide | intro _)

theorem frd_X9_noRecipe (p1 : Int32) (M : Mem) : Fr PR M (d_X9_noRecipe p1 M) := by
  unfold d_X9_noRecipe
  with_reducible repeat' (first | exact Fr_some | refine Fr_ite ?_ ?_ | refine Fr_chk ?_ | refine Fr_nar ?_ | refine Fr_stk (fun _ _ => ?_) | refine Fr_mup (fun _ hi => PR_n (by decide) hi) (fun _ => ?_) | refine Fr_mset (fun _ hi => PR_n (by decide) hi) (fun _ => ?_) | refine Fr_bnd (fun _ => ?_) | refine Fr_bd ?_ (fun _ _ => ?_) | apply frd_X9_in | assumption | decide | intro _)

theorem frd_X9_noRobot (p0 : Int32) (M : Mem) : Fr PR M (d_X9_noRobot p0 M) := by
  unfold d_X9_noRobot
  with_reducible repeat' (first | exact Fr_some | refine Fr_ite ?_ ?_ | refine Fr_chk ?_ | refine Fr_nar ?_ | refine Fr_stk (fun _ _ => ?_) | refine Fr_mup (fun _ hi => PR_n (by decide) hi) (fun _ => ?_) | refine Fr_mset (fun _ hi => PR_n (by decide) hi) (fun _ => ?_) | refine Fr_bnd (fun _ => ?_) | refine Fr_bd ?_ (fun _ _ => ?_) | apply frd_X9_in | assumption | decide | intro _)

theorem frd_X9_noBooking (p1 : Int32) (M : Mem) : Fr PR M (d_X9_noBooking p1 M) := by
  unfold d_X9_noBooking
  with_reducible repeat' (first | exact Fr_some | refine Fr_ite ?_ ?_ | refine Fr_chk ?_ | refine Fr_nar ?_ | refine Fr_stk (fun _ _ => ?_) | refine Fr_mup (fun _ hi => PR_n (by decide) hi) (fun _ => ?_) | refine Fr_mset (fun _ hi => PR_n (by decide) hi) (fun _ => ?_) | refine Fr_bnd (fun _ => ?_) | refine Fr_bd ?_ (fun _ _ => ?_) | apply frd_X9_in | assumption | decide | intro _)

theorem frd_X9_isStart (p1 : Int32) (M : Mem) : Fr PR M (d_X9_isStart p1 M) := by
  unfold d_X9_isStart
  with_reducible repeat' (first | exact Fr_some | refine Fr_ite ?_ ?_ | refine Fr_chk ?_ | refine Fr_nar ?_ | refine Fr_stk (fun _ _ => ?_) | refine Fr_mup (fun _ hi => PR_n (by decide) hi) (fun _ => ?_) | refine Fr_mset (fun _ hi => PR_n (by decide) hi) (fun _ => ?_) | refine Fr_bnd (fun _ => ?_) | refine Fr_bd ?_ (fun _ _ => ?_) | apply frd_X9_in | assumption | decide | intro _)

theorem frd_X9_isOpen (p1 : Int32) (M : Mem) : Fr PR M (d_X9_isOpen p1 M) := by
  unfold d_X9_isOpen
  with_reducible repeat' (first | exact Fr_some | refine Fr_ite ?_ ?_ | refine Fr_chk ?_ | refine Fr_nar ?_ | refine Fr_stk (fun _ _ => ?_) | refine Fr_mup (fun _ hi => PR_n (by decide) hi) (fun _ => ?_) | refine Fr_mset (fun _ hi => PR_n (by decide) hi) (fun _ => ?_) | refine Fr_bnd (fun _ => ?_) | refine Fr_bd ?_ (fun _ _ => ?_) | apply frd_X9_of | assumption | decide | intro _)

theorem frd_X9_record_L51_body (kx1 : Mem → Ans) (kb : Int32 → Mem → Ans) (a1 : Int32) (hx1 : ∀ (M0 : Mem), Fr PR M0 (kx1 M0)) (hb : ∀ (b1 : Int32) (M0 : Mem), Fr PR M0 (kb b1 M0)) (M : Mem) : Fr PR M (d_X9_record_L51_body kx1 kb a1 M) := by
  unfold d_X9_record_L51_body
  with_reducible repeat' (first | exact Fr_some | exact hx1 _ | exact hb _ _ | refine Fr_ite ?_ ?_ | refine Fr_chk ?_ | refine Fr_nar ?_ | refine Fr_stk (fun _ _ => ?_) | refine Fr_mup (fun _ hi => PR_n (by decide) hi) (fun _ => ?_) | refine Fr_mset (fun _ hi => PR_n (by decide) hi) (fun _ => ?_) | refine Fr_bnd (fun _ => ?_) | refine Fr_bd ?_ (fun _ _ => ?_) | assumption | decide | intro _)

theorem frd_X9_record_L51 (kx1 : Mem → Ans) (hx1 : ∀ (M0 : Mem), Fr PR M0 (kx1 M0)) : ∀ (n : Nat) (a1 : Int32) (M : Mem), Fr PR M (d_X9_record_L51 kx1 n a1 M) := by
  intro n
  induction n with
  | zero => intro a1 M; exact Fr_none
  | succ n ih => intro a1 M; exact frd_X9_record_L51_body kx1 _ a1 hx1 ih M

theorem frd_X9_record_B49 (M : Mem) : Fr PR M (d_X9_record_B49 M) := by
  unfold d_X9_record_B49
  with_reducible repeat' (first | exact Fr_some | refine Fr_ite ?_ ?_ | refine Fr_chk ?_ | refine Fr_nar ?_ | refine Fr_stk (fun _ _ => ?_) | refine Fr_mup (fun _ hi => PR_n (by decide) hi) (fun _ => ?_) | refine Fr_mset (fun _ hi => PR_n (by decide) hi) (fun _ => ?_) | refine Fr_bnd (fun _ => ?_) | refine Fr_bd ?_ (fun _ _ => ?_) | apply frd_X9_record_L51 | assumption | decide | intro _)

theorem frd_X9_record_L10_body (kx1 : Mem → Ans) (kb : Int32 → Mem → Ans) (a1 : Int32) (hx1 : ∀ (M0 : Mem), Fr PR M0 (kx1 M0)) (hb : ∀ (b1 : Int32) (M0 : Mem), Fr PR M0 (kb b1 M0)) (M : Mem) : Fr PR M (d_X9_record_L10_body kx1 kb a1 M) := by
  unfold d_X9_record_L10_body
  with_reducible repeat' (first | exact Fr_some | exact hx1 _ | exact hb _ _ | refine Fr_ite ?_ ?_ | refine Fr_chk ?_ | refine Fr_nar ?_ | refine Fr_stk (fun _ _ => ?_) | refine Fr_mup (fun _ hi => PR_n (by decide) hi) (fun _ => ?_) | refine Fr_mset (fun _ hi => PR_n (by decide) hi) (fun _ => ?_) | refine Fr_bnd (fun _ => ?_) | refine Fr_bd ?_ (fun _ _ => ?_) | assumption | decide | intro _)

theorem frd_X9_record_L10 (kx1 : Mem → Ans) (hx1 : ∀ (M0 : Mem), Fr PR M0 (kx1 M0)) : ∀ (n : Nat) (a1 : Int32) (M : Mem), Fr PR M (d_X9_record_L10 kx1 n a1 M) := by
  intro n
  induction n with
  | zero => intro a1 M; exact Fr_none
  | succ n ih => intro a1 M; exact frd_X9_record_L10_body kx1 _ a1 hx1 ih M

theorem frd_X9_record (M : Mem) : Fr PR M (d_X9_record M) := by
  unfold d_X9_record
  with_reducible repeat' (first | exact Fr_some | refine Fr_ite ?_ ?_ | refine Fr_chk ?_ | refine Fr_nar ?_ | refine Fr_stk (fun _ _ => ?_) | refine Fr_mup (fun _ hi => PR_n (by decide) hi) (fun _ => ?_) | refine Fr_mset (fun _ hi => PR_n (by decide) hi) (fun _ => ?_) | refine Fr_bnd (fun _ => ?_) | refine Fr_bd ?_ (fun _ _ => ?_) | apply frd_X9_record_L10 | apply frd_X9_record_B49 | assumption | decide | intro _)

theorem frd_X9_asks_B117 (a1 : Int32) (a2 : Int32) (a3 : Int32) (a4 : Int32) (s0 : Int32) (M : Mem) : Fr PR M (d_X9_asks_B117 a1 a2 a3 a4 s0 M) := by
  unfold d_X9_asks_B117
  with_reducible repeat' (first | exact Fr_some | refine Fr_ite ?_ ?_ | refine Fr_chk ?_ | refine Fr_nar ?_ | refine Fr_stk (fun _ _ => ?_) | refine Fr_mup (fun _ hi => PR_n (by decide) hi) (fun _ => ?_) | refine Fr_mset (fun _ hi => PR_n (by decide) hi) (fun _ => ?_) | refine Fr_bnd (fun _ => ?_) | refine Fr_bd ?_ (fun _ _ => ?_) | apply frd_X9_ofRecipe | assumption | decide | intro _)

theorem frd_X9_asks_B70 (a1 : Int32) (a2 : Int32) (a3 : Int32) (a4 : Int32) (a5 : Int32) (s0 : Int32) (s1 : Int32) (M : Mem) : Fr PR M (d_X9_asks_B70 a1 a2 a3 a4 a5 s0 s1 M) := by
  unfold d_X9_asks_B70
  with_reducible repeat' (first | exact Fr_some | refine Fr_ite ?_ ?_ | refine Fr_chk ?_ | refine Fr_nar ?_ | refine Fr_stk (fun _ _ => ?_) | refine Fr_mup (fun _ hi => PR_n (by decide) hi) (fun _ => ?_) | refine Fr_mset (fun _ hi => PR_n (by decide) hi) (fun _ => ?_) | refine Fr_bnd (fun _ => ?_) | refine Fr_bd ?_ (fun _ _ => ?_) | apply frd_X9_ofRecipe | apply frd_X9_asks_B117 | assumption | decide | intro _)

theorem frd_X9_asks (p1 : Int32) (p2 : Int32) (p3 : Int32) (p4 : Int32) (M : Mem) : Fr PR M (d_X9_asks p1 p2 p3 p4 M) := by
  unfold d_X9_asks
  with_reducible repeat' (first | exact Fr_some | refine Fr_ite ?_ ?_ | refine Fr_chk ?_ | refine Fr_nar ?_ | refine Fr_stk (fun _ _ => ?_) | refine Fr_mup (fun _ hi => PR_n (by decide) hi) (fun _ => ?_) | refine Fr_mset (fun _ hi => PR_n (by decide) hi) (fun _ => ?_) | refine Fr_bnd (fun _ => ?_) | refine Fr_bd ?_ (fun _ _ => ?_) | apply frd_X9_ofRecipe | apply frd_X9_in | apply frd_X9_asks_B70 | assumption | decide | intro _)

theorem frd_X9_begins_B43 (kx1 : Mem → Ans) (kb : Int32 → Mem → Ans) (a1 : Int32) (s0 : Int32) (s1 : Int32) (hx1 : ∀ (M0 : Mem), Fr PR M0 (kx1 M0)) (hb : ∀ (b1 : Int32) (M0 : Mem), Fr PR M0 (kb b1 M0)) (M : Mem) : Fr PR M (d_X9_begins_B43 kx1 kb a1 s0 s1 M) := by
  unfold d_X9_begins_B43
  with_reducible repeat' (first | exact Fr_some | exact hx1 _ | exact hb _ _ | refine Fr_ite ?_ ?_ | refine Fr_chk ?_ | refine Fr_nar ?_ | refine Fr_stk (fun _ _ => ?_) | refine Fr_mup (fun _ hi => PR_n (by decide) hi) (fun _ => ?_) | refine Fr_mset (fun _ hi => PR_n (by decide) hi) (fun _ => ?_) | refine Fr_bnd (fun _ => ?_) | refine Fr_bd ?_ (fun _ _ => ?_) | assumption | decide | intro _)

theorem frd_X9_begins_L12_body (kx1 : Mem → Ans) (kb : Int32 → Mem → Ans) (a1 : Int32) (hx1 : ∀ (M0 : Mem), Fr PR M0 (kx1 M0)) (hb : ∀ (b1 : Int32) (M0 : Mem), Fr PR M0 (kb b1 M0)) (M : Mem) : Fr PR M (d_X9_begins_L12_body kx1 kb a1 M) := by
  unfold d_X9_begins_L12_body
  with_reducible repeat' (first | exact Fr_some | exact hx1 _ | exact hb _ _ | refine Fr_ite ?_ ?_ | refine Fr_chk ?_ | refine Fr_nar ?_ | refine Fr_stk (fun _ _ => ?_) | refine Fr_mup (fun _ hi => PR_n (by decide) hi) (fun _ => ?_) | refine Fr_mset (fun _ hi => PR_n (by decide) hi) (fun _ => ?_) | refine Fr_bnd (fun _ => ?_) | refine Fr_bd ?_ (fun _ _ => ?_) | apply frd_X9_begins_B43 | apply frd_X9_of | assumption | decide | intro _)

theorem frd_X9_begins_L12 (kx1 : Mem → Ans) (hx1 : ∀ (M0 : Mem), Fr PR M0 (kx1 M0)) : ∀ (n : Nat) (a1 : Int32) (M : Mem), Fr PR M (d_X9_begins_L12 kx1 n a1 M) := by
  intro n
  induction n with
  | zero => intro a1 M; exact Fr_none
  | succ n ih => intro a1 M; exact frd_X9_begins_L12_body kx1 _ a1 hx1 ih M

theorem frd_X9_begins (M : Mem) : Fr PR M (d_X9_begins M) := by
  unfold d_X9_begins
  with_reducible repeat' (first | exact Fr_some | refine Fr_ite ?_ ?_ | refine Fr_chk ?_ | refine Fr_nar ?_ | refine Fr_stk (fun _ _ => ?_) | refine Fr_mup (fun _ hi => PR_n (by decide) hi) (fun _ => ?_) | refine Fr_mset (fun _ hi => PR_n (by decide) hi) (fun _ => ?_) | refine Fr_bnd (fun _ => ?_) | refine Fr_bd ?_ (fun _ _ => ?_) | apply frd_X9_begins_L12 | assumption | decide | intro _)

theorem frd_X9_foresees_B98 (kx1 : Mem → Ans) (kb : Int32 → Mem → Ans) (a1 : Int32) (a2 : Int32) (hx1 : ∀ (M0 : Mem), Fr PR M0 (kx1 M0)) (hb : ∀ (b2 : Int32) (M0 : Mem), Fr PR M0 (kb b2 M0)) (M : Mem) : Fr PR M (d_X9_foresees_B98 kx1 kb a1 a2 M) := by
  unfold d_X9_foresees_B98
  with_reducible repeat' (first | exact Fr_some | exact hx1 _ | exact hb _ _ | refine Fr_ite ?_ ?_ | refine Fr_chk ?_ | refine Fr_nar ?_ | refine Fr_stk (fun _ _ => ?_) | refine Fr_mup (fun _ hi => PR_n (by decide) hi) (fun _ => ?_) | refine Fr_mset (fun _ hi => PR_n (by decide) hi) (fun _ => ?_) | refine Fr_bnd (fun _ => ?_) | refine Fr_bd ?_ (fun _ _ => ?_) | assumption | decide | intro _)

theorem frd_X9_foresees_B94 (kx1 : Mem → Ans) (kb : Int32 → Mem → Ans) (a1 : Int32) (a2 : Int32) (s0 : Int32) (s1 : Int32) (s2 : Int32) (hx1 : ∀ (M0 : Mem), Fr PR M0 (kx1 M0)) (hb : ∀ (b2 : Int32) (M0 : Mem), Fr PR M0 (kb b2 M0)) (M : Mem) : Fr PR M (d_X9_foresees_B94 kx1 kb a1 a2 s0 s1 s2 M) := by
  unfold d_X9_foresees_B94
  with_reducible repeat' (first | exact Fr_some | exact hx1 _ | exact hb _ _ | refine Fr_ite ?_ ?_ | refine Fr_chk ?_ | refine Fr_nar ?_ | refine Fr_stk (fun _ _ => ?_) | refine Fr_mup (fun _ hi => PR_n (by decide) hi) (fun _ => ?_) | refine Fr_mset (fun _ hi => PR_n (by decide) hi) (fun _ => ?_) | refine Fr_bnd (fun _ => ?_) | refine Fr_bd ?_ (fun _ _ => ?_) | apply frd_X9_asks | apply frd_X9_foresees_B98 | assumption | decide | intro _)

theorem frd_X9_foresees_L47_body (a1 : Int32) (kx1 : Mem → Ans) (kb : Int32 → Mem → Ans) (a2 : Int32) (hx1 : ∀ (M0 : Mem), Fr PR M0 (kx1 M0)) (hb : ∀ (b2 : Int32) (M0 : Mem), Fr PR M0 (kb b2 M0)) (M : Mem) : Fr PR M (d_X9_foresees_L47_body a1 kx1 kb a2 M) := by
  unfold d_X9_foresees_L47_body
  with_reducible repeat' (first | exact Fr_some | exact hx1 _ | exact hb _ _ | refine Fr_ite ?_ ?_ | refine Fr_chk ?_ | refine Fr_nar ?_ | refine Fr_stk (fun _ _ => ?_) | refine Fr_mup (fun _ hi => PR_n (by decide) hi) (fun _ => ?_) | refine Fr_mset (fun _ hi => PR_n (by decide) hi) (fun _ => ?_) | refine Fr_bnd (fun _ => ?_) | refine Fr_bd ?_ (fun _ _ => ?_) | apply frd_X9_foresees_B98 | apply frd_X9_of | apply frd_X9_foresees_B94 | assumption | decide | intro _)

theorem frd_X9_foresees_L47 (a1 : Int32) (kx1 : Mem → Ans) (hx1 : ∀ (M0 : Mem), Fr PR M0 (kx1 M0)) : ∀ (n : Nat) (a2 : Int32) (M : Mem), Fr PR M (d_X9_foresees_L47 a1 kx1 n a2 M) := by
  intro n
  induction n with
  | zero => intro a2 M; exact Fr_none
  | succ n ih => intro a2 M; exact frd_X9_foresees_L47_body a1 kx1 _ a2 hx1 ih M

theorem frd_X9_foresees_B42 (a1 : Int32) (s0 : Int32) (M : Mem) : Fr PR M (d_X9_foresees_B42 a1 s0 M) := by
  unfold d_X9_foresees_B42
  with_reducible repeat' (first | exact Fr_some | refine Fr_ite ?_ ?_ | refine Fr_chk ?_ | refine Fr_nar ?_ | refine Fr_stk (fun _ _ => ?_) | refine Fr_mup (fun _ hi => PR_n (by decide) hi) (fun _ => ?_) | refine Fr_mset (fun _ hi => PR_n (by decide) hi) (fun _ => ?_) | refine Fr_bnd (fun _ => ?_) | refine Fr_bd ?_ (fun _ _ => ?_) | apply frd_X9_foresees_L47 | apply frd_X9_asks | assumption | decide | intro _)

theorem frd_X9_foresees (p1 : Int32) (M : Mem) : Fr PR M (d_X9_foresees p1 M) := by
  unfold d_X9_foresees
  with_reducible repeat' (first | exact Fr_some | refine Fr_ite ?_ ?_ | refine Fr_chk ?_ | refine Fr_nar ?_ | refine Fr_stk (fun _ _ => ?_) | refine Fr_mup (fun _ hi => PR_n (by decide) hi) (fun _ => ?_) | refine Fr_mset (fun _ hi => PR_n (by decide) hi) (fun _ => ?_) | refine Fr_bnd (fun _ => ?_) | refine Fr_bd ?_ (fun _ _ => ?_) | apply frd_X9_foresees_B42 | assumption | decide | intro _)

theorem frd_X9_forecast_L6_body (kx1 : Mem → Ans) (kb : Int32 → Mem → Ans) (a1 : Int32) (hx1 : ∀ (M0 : Mem), Fr PR M0 (kx1 M0)) (hb : ∀ (b1 : Int32) (M0 : Mem), Fr PR M0 (kb b1 M0)) (M : Mem) : Fr PR M (d_X9_forecast_L6_body kx1 kb a1 M) := by
  unfold d_X9_forecast_L6_body
  with_reducible repeat' (first | exact Fr_some | exact hx1 _ | exact hb _ _ | refine Fr_ite ?_ ?_ | refine Fr_chk ?_ | refine Fr_nar ?_ | refine Fr_stk (fun _ _ => ?_) | refine Fr_mup (fun _ hi => PR_n (by decide) hi) (fun _ => ?_) | refine Fr_mset (fun _ hi => PR_n (by decide) hi) (fun _ => ?_) | refine Fr_bnd (fun _ => ?_) | refine Fr_bd ?_ (fun _ _ => ?_) | apply frd_X9_foresees | assumption | decide | intro _)

theorem frd_X9_forecast_L6 (kx1 : Mem → Ans) (hx1 : ∀ (M0 : Mem), Fr PR M0 (kx1 M0)) : ∀ (n : Nat) (a1 : Int32) (M : Mem), Fr PR M (d_X9_forecast_L6 kx1 n a1 M) := by
  intro n
  induction n with
  | zero => intro a1 M; exact Fr_none
  | succ n ih => intro a1 M; exact frd_X9_forecast_L6_body kx1 _ a1 hx1 ih M

theorem frd_X9_forecast (M : Mem) : Fr PR M (d_X9_forecast M) := by
  unfold d_X9_forecast
  with_reducible repeat' (first | exact Fr_some | refine Fr_ite ?_ ?_ | refine Fr_chk ?_ | refine Fr_nar ?_ | refine Fr_stk (fun _ _ => ?_) | refine Fr_mup (fun _ hi => PR_n (by decide) hi) (fun _ => ?_) | refine Fr_mset (fun _ hi => PR_n (by decide) hi) (fun _ => ?_) | refine Fr_bnd (fun _ => ?_) | refine Fr_bd ?_ (fun _ _ => ?_) | apply frd_X9_begins | apply frd_X9_forecast_L6 | assumption | decide | intro _)

theorem frd_X9_doomed_B33 (kx1 : Int32 → Mem → Ans) (kb : Int32 → Int32 → Mem → Ans) (a2 : Int32) (s0 : Int32) (s1 : Int32) (hx1 : ∀ (b1 : Int32) (M0 : Mem), Fr PR M0 (kx1 b1 M0)) (hb : ∀ (b1 : Int32) (b2 : Int32) (M0 : Mem), Fr PR M0 (kb b1 b2 M0)) (M : Mem) : Fr PR M (d_X9_doomed_B33 kx1 kb a2 s0 s1 M) := by
  unfold d_X9_doomed_B33
  with_reducible repeat' (first | exact Fr_some | exact hx1 _ _ | exact hb _ _ _ | refine Fr_ite ?_ ?_ | refine Fr_chk ?_ | refine Fr_nar ?_ | refine Fr_stk (fun _ _ => ?_) | refine Fr_mup (fun _ hi => PR_n (by decide) hi) (fun _ => ?_) | refine Fr_mset (fun _ hi => PR_n (by decide) hi) (fun _ => ?_) | refine Fr_bnd (fun _ => ?_) | refine Fr_bd ?_ (fun _ _ => ?_) | assumption | decide | intro _)

theorem frd_X9_doomed_L8_body (kx1 : Int32 → Mem → Ans) (kb : Int32 → Int32 → Mem → Ans) (a1 : Int32) (a2 : Int32) (hx1 : ∀ (b1 : Int32) (M0 : Mem), Fr PR M0 (kx1 b1 M0)) (hb : ∀ (b1 : Int32) (b2 : Int32) (M0 : Mem), Fr PR M0 (kb b1 b2 M0)) (M : Mem) : Fr PR M (d_X9_doomed_L8_body kx1 kb a1 a2 M) := by
  unfold d_X9_doomed_L8_body
  with_reducible repeat' (first | exact Fr_some | exact hx1 _ _ | exact hb _ _ _ | refine Fr_ite ?_ ?_ | refine Fr_chk ?_ | refine Fr_nar ?_ | refine Fr_stk (fun _ _ => ?_) | refine Fr_mup (fun _ hi => PR_n (by decide) hi) (fun _ => ?_) | refine Fr_mset (fun _ hi => PR_n (by decide) hi) (fun _ => ?_) | refine Fr_bnd (fun _ => ?_) | refine Fr_bd ?_ (fun _ _ => ?_) | apply frd_X9_doomed_B33 | assumption | decide | intro _)

theorem frd_X9_doomed_L8 (kx1 : Int32 → Mem → Ans) (hx1 : ∀ (b1 : Int32) (M0 : Mem), Fr PR M0 (kx1 b1 M0)) : ∀ (n : Nat) (a1 : Int32) (a2 : Int32) (M : Mem), Fr PR M (d_X9_doomed_L8 kx1 n a1 a2 M) := by
  intro n
  induction n with
  | zero => intro a1 a2 M; exact Fr_none
  | succ n ih => intro a1 a2 M; exact frd_X9_doomed_L8_body kx1 _ a1 a2 hx1 ih M

theorem frd_X9_doomed (M : Mem) : Fr PR M (d_X9_doomed M) := by
  unfold d_X9_doomed
  with_reducible repeat' (first | exact Fr_some | refine Fr_ite ?_ ?_ | refine Fr_chk ?_ | refine Fr_nar ?_ | refine Fr_stk (fun _ _ => ?_) | refine Fr_mup (fun _ hi => PR_n (by decide) hi) (fun _ => ?_) | refine Fr_mset (fun _ hi => PR_n (by decide) hi) (fun _ => ?_) | refine Fr_bnd (fun _ => ?_) | refine Fr_bd ?_ (fun _ _ => ?_) | apply frd_X9_forecast | apply frd_X9_doomed_L8 | assumption | decide | intro _)

theorem frd_X9_last (p1 : Int32) (p2 : Int32) (M : Mem) : Fr PR M (d_X9_last p1 p2 M) := by
  unfold d_X9_last
  with_reducible repeat' (first | exact Fr_some | refine Fr_ite ?_ ?_ | refine Fr_chk ?_ | refine Fr_nar ?_ | refine Fr_stk (fun _ _ => ?_) | refine Fr_mup (fun _ hi => PR_n (by decide) hi) (fun _ => ?_) | refine Fr_mset (fun _ hi => PR_n (by decide) hi) (fun _ => ?_) | refine Fr_bnd (fun _ => ?_) | refine Fr_bd ?_ (fun _ _ => ?_) | apply frd_X9_ofRecipe | assumption | decide | intro _)

theorem frd_X9_keeper_B79 (kx1 : Mem → Ans) (kb : Int32 → Mem → Ans) (a1 : Int32) (a2 : Int32) (a3 : Int32) (a4 : Int32) (a5 : Int32) (hx1 : ∀ (M0 : Mem), Fr PR M0 (kx1 M0)) (hb : ∀ (b5 : Int32) (M0 : Mem), Fr PR M0 (kb b5 M0)) (M : Mem) : Fr PR M (d_X9_keeper_B79 kx1 kb a1 a2 a3 a4 a5 M) := by
  unfold d_X9_keeper_B79
  with_reducible repeat' (first | exact Fr_some | exact hx1 _ | exact hb _ _ | refine Fr_ite ?_ ?_ | refine Fr_chk ?_ | refine Fr_nar ?_ | refine Fr_stk (fun _ _ => ?_) | refine Fr_mup (fun _ hi => PR_n (by decide) hi) (fun _ => ?_) | refine Fr_mset (fun _ hi => PR_n (by decide) hi) (fun _ => ?_) | refine Fr_bnd (fun _ => ?_) | refine Fr_bd ?_ (fun _ _ => ?_) | assumption | decide | intro _)

theorem frd_X9_keeper_L3_body (a1 : Int32) (a2 : Int32) (a3 : Int32) (a4 : Int32) (kx1 : Mem → Ans) (kb : Int32 → Mem → Ans) (a5 : Int32) (hx1 : ∀ (M0 : Mem), Fr PR M0 (kx1 M0)) (hb : ∀ (b5 : Int32) (M0 : Mem), Fr PR M0 (kb b5 M0)) (M : Mem) : Fr PR M (d_X9_keeper_L3_body a1 a2 a3 a4 kx1 kb a5 M) := by
  unfold d_X9_keeper_L3_body
  with_reducible repeat' (first | exact Fr_some | exact hx1 _ | exact hb _ _ | refine Fr_ite ?_ ?_ | refine Fr_chk ?_ | refine Fr_nar ?_ | refine Fr_stk (fun _ _ => ?_) | refine Fr_mup (fun _ hi => PR_n (by decide) hi) (fun _ => ?_) | refine Fr_mset (fun _ hi => PR_n (by decide) hi) (fun _ => ?_) | refine Fr_bnd (fun _ => ?_) | refine Fr_bd ?_ (fun _ _ => ?_) | apply frd_X9_keeper_B79 | apply frd_X9_of | apply frd_X9_last | assumption | decide | intro _)

theorem frd_X9_keeper_L3 (a1 : Int32) (a2 : Int32) (a3 : Int32) (a4 : Int32) (kx1 : Mem → Ans) (hx1 : ∀ (M0 : Mem), Fr PR M0 (kx1 M0)) : ∀ (n : Nat) (a5 : Int32) (M : Mem), Fr PR M (d_X9_keeper_L3 a1 a2 a3 a4 kx1 n a5 M) := by
  intro n
  induction n with
  | zero => intro a5 M; exact Fr_none
  | succ n ih => intro a5 M; exact frd_X9_keeper_L3_body a1 a2 a3 a4 kx1 _ a5 hx1 ih M

theorem frd_X9_keeper (p1 : Int32) (p2 : Int32) (p3 : Int32) (p4 : Int32) (M : Mem) : Fr PR M (d_X9_keeper p1 p2 p3 p4 M) := by
  unfold d_X9_keeper
  with_reducible repeat' (first | exact Fr_some | refine Fr_ite ?_ ?_ | refine Fr_chk ?_ | refine Fr_nar ?_ | refine Fr_stk (fun _ _ => ?_) | refine Fr_mup (fun _ hi => PR_n (by decide) hi) (fun _ => ?_) | refine Fr_mset (fun _ hi => PR_n (by decide) hi) (fun _ => ?_) | refine Fr_bnd (fun _ => ?_) | refine Fr_bd ?_ (fun _ _ => ?_) | apply frd_X9_keeper_L3 | assumption | decide | intro _)

theorem frd_X9_bases_L16_body (kx1 : Mem → Ans) (kb : Int32 → Mem → Ans) (a2 : Int32) (hx1 : ∀ (M0 : Mem), Fr PR M0 (kx1 M0)) (hb : ∀ (b2 : Int32) (M0 : Mem), Fr PR M0 (kb b2 M0)) (M : Mem) : Fr PR M (d_X9_bases_L16_body kx1 kb a2 M) := by
  unfold d_X9_bases_L16_body
  with_reducible repeat' (first | exact Fr_some | exact hx1 _ | exact hb _ _ | refine Fr_ite ?_ ?_ | refine Fr_chk ?_ | refine Fr_nar ?_ | refine Fr_stk (fun _ _ => ?_) | refine Fr_mup (fun _ hi => PR_n (by decide) hi) (fun _ => ?_) | refine Fr_mset (fun _ hi => PR_n (by decide) hi) (fun _ => ?_) | refine Fr_bnd (fun _ => ?_) | refine Fr_bd ?_ (fun _ _ => ?_) | assumption | decide | intro _)

theorem frd_X9_bases_L16 (kx1 : Mem → Ans) (hx1 : ∀ (M0 : Mem), Fr PR M0 (kx1 M0)) : ∀ (n : Nat) (a2 : Int32) (M : Mem), Fr PR M (d_X9_bases_L16 kx1 n a2 M) := by
  intro n
  induction n with
  | zero => intro a2 M; exact Fr_none
  | succ n ih => intro a2 M; exact frd_X9_bases_L16_body kx1 _ a2 hx1 ih M

theorem frd_X9_bases (p1 : Int32) (M : Mem) : Fr PR M (d_X9_bases p1 M) := by
  unfold d_X9_bases
  with_reducible repeat' (first | exact Fr_some | refine Fr_ite ?_ ?_ | refine Fr_chk ?_ | refine Fr_nar ?_ | refine Fr_stk (fun _ _ => ?_) | refine Fr_mup (fun _ hi => PR_n (by decide) hi) (fun _ => ?_) | refine Fr_mset (fun _ hi => PR_n (by decide) hi) (fun _ => ?_) | refine Fr_bnd (fun _ => ?_) | refine Fr_bd ?_ (fun _ _ => ?_) | apply frd_X9_forecast | apply frd_X9_bases_L16 | assumption | decide | intro _)

theorem frd_X9_reason_B139 (kx1 : Mem → Ans) (kb : Int32 → Mem → Ans) (a5 : Int32) (a6 : Int32) (hx1 : ∀ (M0 : Mem), Fr PR M0 (kx1 M0)) (hb : ∀ (b6 : Int32) (M0 : Mem), Fr PR M0 (kb b6 M0)) (M : Mem) : Fr PR M (d_X9_reason_B139 kx1 kb a5 a6 M) := by
  unfold d_X9_reason_B139
  with_reducible repeat' (first | exact Fr_some | exact hx1 _ | exact hb _ _ | refine Fr_ite ?_ ?_ | refine Fr_chk ?_ | refine Fr_nar ?_ | refine Fr_stk (fun _ _ => ?_) | refine Fr_mup (fun _ hi => PR_n (by decide) hi) (fun _ => ?_) | refine Fr_mset (fun _ hi => PR_n (by decide) hi) (fun _ => ?_) | refine Fr_bnd (fun _ => ?_) | refine Fr_bd ?_ (fun _ _ => ?_) | assumption | decide | intro _)

theorem frd_X9_reason_L93_body (a5 : Int32) (kx1 : Mem → Ans) (kb : Int32 → Mem → Ans) (a6 : Int32) (hx1 : ∀ (M0 : Mem), Fr PR M0 (kx1 M0)) (hb : ∀ (b6 : Int32) (M0 : Mem), Fr PR M0 (kb b6 M0)) (M : Mem) : Fr PR M (d_X9_reason_L93_body a5 kx1 kb a6 M) := by
  unfold d_X9_reason_L93_body
  with_reducible repeat' (first | exact Fr_some | exact hx1 _ | exact hb _ _ | refine Fr_ite ?_ ?_ | refine Fr_chk ?_ | refine Fr_nar ?_ | refine Fr_stk (fun _ _ => ?_) | refine Fr_mup (fun _ hi => PR_n (by decide) hi) (fun _ => ?_) | refine Fr_mset (fun _ hi => PR_n (by decide) hi) (fun _ => ?_) | refine Fr_bnd (fun _ => ?_) | refine Fr_bd ?_ (fun _ _ => ?_) | apply frd_X9_reason_B139 | assumption | decide | intro _)

theorem frd_X9_reason_L93 (a5 : Int32) (kx1 : Mem → Ans) (hx1 : ∀ (M0 : Mem), Fr PR M0 (kx1 M0)) : ∀ (n : Nat) (a6 : Int32) (M : Mem), Fr PR M (d_X9_reason_L93 a5 kx1 n a6 M) := by
  intro n
  induction n with
  | zero => intro a6 M; exact Fr_none
  | succ n ih => intro a6 M; exact frd_X9_reason_L93_body a5 kx1 _ a6 hx1 ih M

theorem frd_X9_reason_B76 (s0 : Int32) (M : Mem) : Fr PR M (d_X9_reason_B76 s0 M) := by
  unfold d_X9_reason_B76
  with_reducible repeat' (first | exact Fr_some | refine Fr_ite ?_ ?_ | refine Fr_chk ?_ | refine Fr_nar ?_ | refine Fr_stk (fun _ _ => ?_) | refine Fr_mup (fun _ hi => PR_n (by decide) hi) (fun _ => ?_) | refine Fr_mset (fun _ hi => PR_n (by decide) hi) (fun _ => ?_) | refine Fr_bnd (fun _ => ?_) | refine Fr_bd ?_ (fun _ _ => ?_) | apply frd_X9_reason_L93 | assumption | decide | intro _)

theorem frd_X9_reason_B50 (a4 : Int32) (M : Mem) : Fr PR M (d_X9_reason_B50 a4 M) := by
  unfold d_X9_reason_B50
  with_reducible repeat' (first | exact Fr_some | refine Fr_ite ?_ ?_ | refine Fr_chk ?_ | refine Fr_nar ?_ | refine Fr_stk (fun _ _ => ?_) | refine Fr_mup (fun _ hi => PR_n (by decide) hi) (fun _ => ?_) | refine Fr_mset (fun _ hi => PR_n (by decide) hi) (fun _ => ?_) | refine Fr_bnd (fun _ => ?_) | refine Fr_bd ?_ (fun _ _ => ?_) | apply frd_X9_forecast | apply frd_X9_reason_B76 | assumption | decide | intro _)

theorem frd_X9_reason (p1 : Int32) (p2 : Int32) (p3 : Int32) (p4 : Int32) (M : Mem) : Fr PR M (d_X9_reason p1 p2 p3 p4 M) := by
  unfold d_X9_reason
  with_reducible repeat' (first | exact Fr_some | refine Fr_ite ?_ ?_ | refine Fr_chk ?_ | refine Fr_nar ?_ | refine Fr_stk (fun _ _ => ?_) | refine Fr_mup (fun _ hi => PR_n (by decide) hi) (fun _ => ?_) | refine Fr_mset (fun _ hi => PR_n (by decide) hi) (fun _ => ?_) | refine Fr_bnd (fun _ => ?_) | refine Fr_bd ?_ (fun _ _ => ?_) | apply frd_X9_last | apply frd_X9_keeper | apply frd_X9_reason_B50 | assumption | decide | intro _)

theorem frd_X9_first_L58_body (a1 : Int32) (a2 : Int32) (a5 : Int32) (a7 : Int32) (kx1 : Mem → Ans) (kb : Int32 → Mem → Ans) (a8 : Int32) (hx1 : ∀ (M0 : Mem), Fr PR M0 (kx1 M0)) (hb : ∀ (b8 : Int32) (M0 : Mem), Fr PR M0 (kb b8 M0)) (M : Mem) : Fr PR M (d_X9_first_L58_body a1 a2 a5 a7 kx1 kb a8 M) := by
  unfold d_X9_first_L58_body
  with_reducible repeat' (first | exact Fr_some | exact hx1 _ | exact hb _ _ | refine Fr_ite ?_ ?_ | refine Fr_chk ?_ | refine Fr_nar ?_ | refine Fr_stk (fun _ _ => ?_) | refine Fr_mup (fun _ hi => PR_n (by decide) hi) (fun _ => ?_) | refine Fr_mset (fun _ hi => PR_n (by decide) hi) (fun _ => ?_) | refine Fr_bnd (fun _ => ?_) | refine Fr_bd ?_ (fun _ _ => ?_) | apply frd_X9_reason | assumption | decide | intro _)

theorem frd_X9_first_L58 (a1 : Int32) (a2 : Int32) (a5 : Int32) (a7 : Int32) (kx1 : Mem → Ans) (hx1 : ∀ (M0 : Mem), Fr PR M0 (kx1 M0)) : ∀ (n : Nat) (a8 : Int32) (M : Mem), Fr PR M (d_X9_first_L58 a1 a2 a5 a7 kx1 n a8 M) := by
  intro n
  induction n with
  | zero => intro a8 M; exact Fr_none
  | succ n ih => intro a8 M; exact frd_X9_first_L58_body a1 a2 a5 a7 kx1 _ a8 hx1 ih M

theorem frd_X9_first_B52 (a1 : Int32) (a2 : Int32) (a5 : Int32) (a6 : Int32) (s0 : Int32) (M : Mem) : Fr PR M (d_X9_first_B52 a1 a2 a5 a6 s0 M) := by
  unfold d_X9_first_B52
  with_reducible repeat' (first | exact Fr_some | refine Fr_ite ?_ ?_ | refine Fr_chk ?_ | refine Fr_nar ?_ | refine Fr_stk (fun _ _ => ?_) | refine Fr_mup (fun _ hi => PR_n (by decide) hi) (fun _ => ?_) | refine Fr_mset (fun _ hi => PR_n (by decide) hi) (fun _ => ?_) | refine Fr_bnd (fun _ => ?_) | refine Fr_bd ?_ (fun _ _ => ?_) | apply frd_X9_first_L58 | assumption | decide | intro _)

theorem frd_X9_first_B22 (a1 : Int32) (a2 : Int32) (a4 : Int32) (a5 : Int32) (s0 : Int32) (M : Mem) : Fr PR M (d_X9_first_B22 a1 a2 a4 a5 s0 M) := by
  unfold d_X9_first_B22
  with_reducible repeat' (first | exact Fr_some | refine Fr_ite ?_ ?_ | refine Fr_chk ?_ | refine Fr_nar ?_ | refine Fr_stk (fun _ _ => ?_) | refine Fr_mup (fun _ hi => PR_n (by decide) hi) (fun _ => ?_) | refine Fr_mset (fun _ hi => PR_n (by decide) hi) (fun _ => ?_) | refine Fr_bnd (fun _ => ?_) | refine Fr_bd ?_ (fun _ _ => ?_) | apply frd_X9_first_B52 | assumption | decide | intro _)

theorem frd_X9_first (p1 : Int32) (p2 : Int32) (p3 : Int32) (p4 : Int32) (p5 : Int32) (M : Mem) : Fr PR M (d_X9_first p1 p2 p3 p4 p5 M) := by
  unfold d_X9_first
  with_reducible repeat' (first | exact Fr_some | refine Fr_ite ?_ ?_ | refine Fr_chk ?_ | refine Fr_nar ?_ | refine Fr_stk (fun _ _ => ?_) | refine Fr_mup (fun _ hi => PR_n (by decide) hi) (fun _ => ?_) | refine Fr_mset (fun _ hi => PR_n (by decide) hi) (fun _ => ?_) | refine Fr_bnd (fun _ => ?_) | refine Fr_bd ?_ (fun _ _ => ?_) | apply frd_X9_first_B22 | assumption | decide | intro _)

theorem frd_X9_adds (p1 : Int32) (p2 : Int32) (p3 : Int32) (M : Mem) : Fr PR M (d_X9_adds p1 p2 p3 M) := by
  unfold d_X9_adds
  with_reducible repeat' (first | exact Fr_some | refine Fr_ite ?_ ?_ | refine Fr_chk ?_ | refine Fr_nar ?_ | refine Fr_stk (fun _ _ => ?_) | refine Fr_mup (fun _ hi => PR_n (by decide) hi) (fun _ => ?_) | refine Fr_mset (fun _ hi => PR_n (by decide) hi) (fun _ => ?_) | refine Fr_bnd (fun _ => ?_) | refine Fr_bd ?_ (fun _ _ => ?_) | apply frd_X9_puts | assumption | decide | intro _)

theorem frd_X9_addRecipe (p1 : Int32) (p2 : Int32) (p3 : Int32) (p4 : Int32) (M : Mem) : Fr PR M (d_X9_addRecipe p1 p2 p3 p4 M) := by
  unfold d_X9_addRecipe
  with_reducible repeat' (first | exact Fr_some | refine Fr_ite ?_ ?_ | refine Fr_chk ?_ | refine Fr_nar ?_ | refine Fr_stk (fun _ _ => ?_) | refine Fr_mup (fun _ hi => PR_n (by decide) hi) (fun _ => ?_) | refine Fr_mset (fun _ hi => PR_n (by decide) hi) (fun _ => ?_) | refine Fr_bnd (fun _ => ?_) | refine Fr_bd ?_ (fun _ _ => ?_) | apply frd_X9_in | apply frd_X9_record | assumption | decide | intro _)

theorem frd_X9_setHeat (p1 : Int32) (M : Mem) : Fr PR M (d_X9_setHeat p1 M) := by
  unfold d_X9_setHeat
  with_reducible repeat' (first | exact Fr_some | refine Fr_ite ?_ ?_ | refine Fr_chk ?_ | refine Fr_nar ?_ | refine Fr_stk (fun _ _ => ?_) | refine Fr_mup (fun _ hi => PR_n (by decide) hi) (fun _ => ?_) | refine Fr_mset (fun _ hi => PR_n (by decide) hi) (fun _ => ?_) | refine Fr_bnd (fun _ => ?_) | refine Fr_bd ?_ (fun _ _ => ?_) | apply frd_X9_in | apply frd_X9_record | apply frd_X9_doomed | assumption | decide | intro _)

theorem frd_X9_setMost_B64 (s0 : Int32) (s1 : Int32) (M : Mem) : Fr PR M (d_X9_setMost_B64 s0 s1 M) := by
  unfold d_X9_setMost_B64
  with_reducible repeat' (first | exact Fr_some | refine Fr_ite ?_ ?_ | refine Fr_chk ?_ | refine Fr_nar ?_ | refine Fr_stk (fun _ _ => ?_) | refine Fr_mup (fun _ hi => PR_n (by decide) hi) (fun _ => ?_) | refine Fr_mset (fun _ hi => PR_n (by decide) hi) (fun _ => ?_) | refine Fr_bnd (fun _ => ?_) | refine Fr_bd ?_ (fun _ _ => ?_) | assumption | decide | intro _)

theorem frd_X9_setMost (p1 : Int32) (M : Mem) : Fr PR M (d_X9_setMost p1 M) := by
  unfold d_X9_setMost
  with_reducible repeat' (first | exact Fr_some | refine Fr_ite ?_ ?_ | refine Fr_chk ?_ | refine Fr_nar ?_ | refine Fr_stk (fun _ _ => ?_) | refine Fr_mup (fun _ hi => PR_n (by decide) hi) (fun _ => ?_) | refine Fr_mset (fun _ hi => PR_n (by decide) hi) (fun _ => ?_) | refine Fr_bnd (fun _ => ?_) | refine Fr_bd ?_ (fun _ _ => ?_) | apply frd_X9_in | apply frd_X9_record | apply frd_X9_setMost_B64 | assumption | decide | intro _)

theorem frd_X9_fall_B53 (s0 : Int32) (s1 : Int32) (M : Mem) : Fr PR M (d_X9_fall_B53 s0 s1 M) := by
  unfold d_X9_fall_B53
  with_reducible repeat' (first | exact Fr_some | refine Fr_ite ?_ ?_ | refine Fr_chk ?_ | refine Fr_nar ?_ | refine Fr_stk (fun _ _ => ?_) | refine Fr_mup (fun _ hi => PR_n (by decide) hi) (fun _ => ?_) | refine Fr_mset (fun _ hi => PR_n (by decide) hi) (fun _ => ?_) | refine Fr_bnd (fun _ => ?_) | refine Fr_bd ?_ (fun _ _ => ?_) | apply frd_X9_doomed | assumption | decide | intro _)

theorem frd_X9_fall (p1 : Int32) (M : Mem) : Fr PR M (d_X9_fall p1 M) := by
  unfold d_X9_fall
  with_reducible repeat' (first | exact Fr_some | refine Fr_ite ?_ ?_ | refine Fr_chk ?_ | refine Fr_nar ?_ | refine Fr_stk (fun _ _ => ?_) | refine Fr_mup (fun _ hi => PR_n (by decide) hi) (fun _ => ?_) | refine Fr_mset (fun _ hi => PR_n (by decide) hi) (fun _ => ?_) | refine Fr_bnd (fun _ => ?_) | refine Fr_bd ?_ (fun _ _ => ?_) | apply frd_X9_in | apply frd_X9_record | apply frd_X9_fall_B53 | assumption | decide | intro _)

theorem frd_X9_wrong (p1 : Int32) (p2 : Int32) (p3 : Int32) (M : Mem) : Fr PR M (d_X9_wrong p1 p2 p3 M) := by
  unfold d_X9_wrong
  with_reducible repeat' (first | exact Fr_some | refine Fr_ite ?_ ?_ | refine Fr_chk ?_ | refine Fr_nar ?_ | refine Fr_stk (fun _ _ => ?_) | refine Fr_mup (fun _ hi => PR_n (by decide) hi) (fun _ => ?_) | refine Fr_mset (fun _ hi => PR_n (by decide) hi) (fun _ => ?_) | refine Fr_bnd (fun _ => ?_) | refine Fr_bd ?_ (fun _ _ => ?_) | apply frd_X9_noRobot | apply frd_X9_noRecipe | apply frd_X9_isStart | apply frd_X9_bases | apply frd_X9_reason | assumption | decide | intro _)

theorem frd_X9_book (p1 : Int32) (p2 : Int32) (p3 : Int32) (M : Mem) : Fr PR M (d_X9_book p1 p2 p3 M) := by
  unfold d_X9_book
  with_reducible repeat' (first | exact Fr_some | refine Fr_ite ?_ ?_ | refine Fr_chk ?_ | refine Fr_nar ?_ | refine Fr_stk (fun _ _ => ?_) | refine Fr_mup (fun _ hi => PR_n (by decide) hi) (fun _ => ?_) | refine Fr_mset (fun _ hi => PR_n (by decide) hi) (fun _ => ?_) | refine Fr_bnd (fun _ => ?_) | refine Fr_bd ?_ (fun _ _ => ?_) | apply frd_X9_wrong | apply frd_X9_record | apply frd_X9_adds | assumption | decide | intro _)

theorem frd_X9_grants (p1 : Int32) (p2 : Int32) (p3 : Int32) (M : Mem) : Fr PR M (d_X9_grants p1 p2 p3 M) := by
  unfold d_X9_grants
  with_reducible repeat' (first | exact Fr_some | refine Fr_ite ?_ ?_ | refine Fr_chk ?_ | refine Fr_nar ?_ | refine Fr_stk (fun _ _ => ?_) | refine Fr_mup (fun _ hi => PR_n (by decide) hi) (fun _ => ?_) | refine Fr_mset (fun _ hi => PR_n (by decide) hi) (fun _ => ?_) | refine Fr_bnd (fun _ => ?_) | refine Fr_bd ?_ (fun _ _ => ?_) | apply frd_X9_bases | apply frd_X9_first | apply frd_X9_adds | assumption | decide | intro _)

theorem frd_X9_leaves_L15_body (kx1 : Mem → Ans) (kb : Int32 → Mem → Ans) (a2 : Int32) (hx1 : ∀ (M0 : Mem), Fr PR M0 (kx1 M0)) (hb : ∀ (b2 : Int32) (M0 : Mem), Fr PR M0 (kb b2 M0)) (M : Mem) : Fr PR M (d_X9_leaves_L15_body kx1 kb a2 M) := by
  unfold d_X9_leaves_L15_body
  with_reducible repeat' (first | exact Fr_some | exact hx1 _ | exact hb _ _ | refine Fr_ite ?_ ?_ | refine Fr_chk ?_ | refine Fr_nar ?_ | refine Fr_stk (fun _ _ => ?_) | refine Fr_mup (fun _ hi => PR_n (by decide) hi) (fun _ => ?_) | refine Fr_mset (fun _ hi => PR_n (by decide) hi) (fun _ => ?_) | refine Fr_bnd (fun _ => ?_) | refine Fr_bd ?_ (fun _ _ => ?_) | assumption | decide | intro _)

theorem frd_X9_leaves_L15 (kx1 : Mem → Ans) (hx1 : ∀ (M0 : Mem), Fr PR M0 (kx1 M0)) : ∀ (n : Nat) (a2 : Int32) (M : Mem), Fr PR M (d_X9_leaves_L15 kx1 n a2 M) := by
  intro n
  induction n with
  | zero => intro a2 M; exact Fr_none
  | succ n ih => intro a2 M; exact frd_X9_leaves_L15_body kx1 _ a2 hx1 ih M

theorem frd_X9_leaves (p1 : Int32) (M : Mem) : Fr PR M (d_X9_leaves p1 M) := by
  unfold d_X9_leaves
  with_reducible repeat' (first | exact Fr_some | refine Fr_ite ?_ ?_ | refine Fr_chk ?_ | refine Fr_nar ?_ | refine Fr_stk (fun _ _ => ?_) | refine Fr_mup (fun _ hi => PR_n (by decide) hi) (fun _ => ?_) | refine Fr_mset (fun _ hi => PR_n (by decide) hi) (fun _ => ?_) | refine Fr_bnd (fun _ => ?_) | refine Fr_bd ?_ (fun _ _ => ?_) | apply frd_X9_leaves_L15 | assumption | decide | intro _)

theorem frd_X9_cancel_L36_body (kx1 : Int32 → Mem → Ans) (kb : Int32 → Int32 → Mem → Ans) (a2 : Int32) (a3 : Int32) (hx1 : ∀ (b2 : Int32) (M0 : Mem), Fr PR M0 (kx1 b2 M0)) (hb : ∀ (b2 : Int32) (b3 : Int32) (M0 : Mem), Fr PR M0 (kb b2 b3 M0)) (M : Mem) : Fr PR M (d_X9_cancel_L36_body kx1 kb a2 a3 M) := by
  unfold d_X9_cancel_L36_body
  with_reducible repeat' (first | exact Fr_some | exact hx1 _ _ | exact hb _ _ _ | refine Fr_ite ?_ ?_ | refine Fr_chk ?_ | refine Fr_nar ?_ | refine Fr_stk (fun _ _ => ?_) | refine Fr_mup (fun _ hi => PR_n (by decide) hi) (fun _ => ?_) | refine Fr_mset (fun _ hi => PR_n (by decide) hi) (fun _ => ?_) | refine Fr_bnd (fun _ => ?_) | refine Fr_bd ?_ (fun _ _ => ?_) | apply frd_X9_ofWish | apply frd_X9_grants | apply frd_X9_leaves | assumption | decide | intro _)

theorem frd_X9_cancel_L36 (kx1 : Int32 → Mem → Ans) (hx1 : ∀ (b2 : Int32) (M0 : Mem), Fr PR M0 (kx1 b2 M0)) : ∀ (n : Nat) (a2 : Int32) (a3 : Int32) (M : Mem), Fr PR M (d_X9_cancel_L36 kx1 n a2 a3 M) := by
  intro n
  induction n with
  | zero => intro a2 a3 M; exact Fr_none
  | succ n ih => intro a2 a3 M; exact frd_X9_cancel_L36_body kx1 _ a2 a3 hx1 ih M

theorem frd_X9_cancel (p1 : Int32) (M : Mem) : Fr PR M (d_X9_cancel p1 M) := by
  unfold d_X9_cancel
  with_reducible repeat' (first | exact Fr_some | refine Fr_ite ?_ ?_ | refine Fr_chk ?_ | refine Fr_nar ?_ | refine Fr_stk (fun _ _ => ?_) | refine Fr_mup (fun _ hi => PR_n (by decide) hi) (fun _ => ?_) | refine Fr_mset (fun _ hi => PR_n (by decide) hi) (fun _ => ?_) | refine Fr_bnd (fun _ => ?_) | refine Fr_bd ?_ (fun _ _ => ?_) | apply frd_X9_noBooking | apply frd_X9_isOpen | apply frd_X9_record | apply frd_X9_puts | apply frd_X9_cancel_L36 | assumption | decide | intro _)

theorem frd_X9_move (p1 : Int32) (p2 : Int32) (M : Mem) : Fr PR M (d_X9_move p1 p2 M) := by
  unfold d_X9_move
  with_reducible repeat' (first | exact Fr_some | refine Fr_ite ?_ ?_ | refine Fr_chk ?_ | refine Fr_nar ?_ | refine Fr_stk (fun _ _ => ?_) | refine Fr_mup (fun _ hi => PR_n (by decide) hi) (fun _ => ?_) | refine Fr_mset (fun _ hi => PR_n (by decide) hi) (fun _ => ?_) | refine Fr_bnd (fun _ => ?_) | refine Fr_bd ?_ (fun _ _ => ?_) | apply frd_X9_noBooking | apply frd_X9_of | apply frd_X9_isStart | apply frd_X9_bases | apply frd_X9_reason | apply frd_X9_record | apply frd_X9_puts | assumption | decide | intro _)

theorem frd_X9_sick_B45 (kx1 : Mem → Ans) (kb : Int32 → Mem → Ans) (a1 : Int32) (hx1 : ∀ (M0 : Mem), Fr PR M0 (kx1 M0)) (hb : ∀ (b1 : Int32) (M0 : Mem), Fr PR M0 (kb b1 M0)) (M : Mem) : Fr PR M (d_X9_sick_B45 kx1 kb a1 M) := by
  unfold d_X9_sick_B45
  with_reducible repeat' (first | exact Fr_some | exact hx1 _ | exact hb _ _ | refine Fr_ite ?_ ?_ | refine Fr_chk ?_ | refine Fr_nar ?_ | refine Fr_stk (fun _ _ => ?_) | refine Fr_mup (fun _ hi => PR_n (by decide) hi) (fun _ => ?_) | refine Fr_mset (fun _ hi => PR_n (by decide) hi) (fun _ => ?_) | refine Fr_bnd (fun _ => ?_) | refine Fr_bd ?_ (fun _ _ => ?_) | assumption | decide | intro _)

theorem frd_X9_sick_L6_body (kx1 : Mem → Ans) (kb : Int32 → Mem → Ans) (a1 : Int32) (hx1 : ∀ (M0 : Mem), Fr PR M0 (kx1 M0)) (hb : ∀ (b1 : Int32) (M0 : Mem), Fr PR M0 (kb b1 M0)) (M : Mem) : Fr PR M (d_X9_sick_L6_body kx1 kb a1 M) := by
  unfold d_X9_sick_L6_body
  with_reducible repeat' (first | exact Fr_some | exact hx1 _ | exact hb _ _ | refine Fr_ite ?_ ?_ | refine Fr_chk ?_ | refine Fr_nar ?_ | refine Fr_stk (fun _ _ => ?_) | refine Fr_mup (fun _ hi => PR_n (by decide) hi) (fun _ => ?_) | refine Fr_mset (fun _ hi => PR_n (by decide) hi) (fun _ => ?_) | refine Fr_bnd (fun _ => ?_) | refine Fr_bd ?_ (fun _ _ => ?_) | apply frd_X9_of | apply frd_X9_sick_B45 | assumption | decide | intro _)

theorem frd_X9_sick_L6 (kx1 : Mem → Ans) (hx1 : ∀ (M0 : Mem), Fr PR M0 (kx1 M0)) : ∀ (n : Nat) (a1 : Int32) (M : Mem), Fr PR M (d_X9_sick_L6 kx1 n a1 M) := by
  intro n
  induction n with
  | zero => intro a1 M; exact Fr_none
  | succ n ih => intro a1 M; exact frd_X9_sick_L6_body kx1 _ a1 hx1 ih M

theorem frd_X9_sick (M : Mem) : Fr PR M (d_X9_sick M) := by
  unfold d_X9_sick
  with_reducible repeat' (first | exact Fr_some | refine Fr_ite ?_ ?_ | refine Fr_chk ?_ | refine Fr_nar ?_ | refine Fr_stk (fun _ _ => ?_) | refine Fr_mup (fun _ hi => PR_n (by decide) hi) (fun _ => ?_) | refine Fr_mset (fun _ hi => PR_n (by decide) hi) (fun _ => ?_) | refine Fr_bnd (fun _ => ?_) | refine Fr_bd ?_ (fun _ _ => ?_) | apply frd_X9_forecast | apply frd_X9_sick_L6 | assumption | decide | intro _)

theorem frd_X9_repair_L2_body (kx1 : Mem → Ans) (kb : Int32 → Mem → Ans) (a1 : Int32) (hx1 : ∀ (M0 : Mem), Fr PR M0 (kx1 M0)) (hb : ∀ (b1 : Int32) (M0 : Mem), Fr PR M0 (kb b1 M0)) (M : Mem) : Fr PR M (d_X9_repair_L2_body kx1 kb a1 M) := by
  unfold d_X9_repair_L2_body
  with_reducible repeat' (first | exact Fr_some | exact hx1 _ | exact hb _ _ | refine Fr_ite ?_ ?_ | refine Fr_chk ?_ | refine Fr_nar ?_ | refine Fr_stk (fun _ _ => ?_) | refine Fr_mup (fun _ hi => PR_n (by decide) hi) (fun _ => ?_) | refine Fr_mset (fun _ hi => PR_n (by decide) hi) (fun _ => ?_) | refine Fr_bnd (fun _ => ?_) | refine Fr_bd ?_ (fun _ _ => ?_) | assumption | decide | intro _)

theorem frd_X9_repair_L2 (kx1 : Mem → Ans) (hx1 : ∀ (M0 : Mem), Fr PR M0 (kx1 M0)) : ∀ (n : Nat) (a1 : Int32) (M : Mem), Fr PR M (d_X9_repair_L2 kx1 n a1 M) := by
  intro n
  induction n with
  | zero => intro a1 M; exact Fr_none
  | succ n ih => intro a1 M; exact frd_X9_repair_L2_body kx1 _ a1 hx1 ih M

theorem frd_X9_repair_B113 (kx1 : Int32 → Mem → Ans) (kb : Int32 → Int32 → Mem → Ans) (a1 : Int32) (a2 : Int32) (hx1 : ∀ (b2 : Int32) (M0 : Mem), Fr PR M0 (kx1 b2 M0)) (hb : ∀ (b1 : Int32) (b2 : Int32) (M0 : Mem), Fr PR M0 (kb b1 b2 M0)) (M : Mem) : Fr PR M (d_X9_repair_B113 kx1 kb a1 a2 M) := by
  unfold d_X9_repair_B113
  with_reducible repeat' (first | exact Fr_some | exact hx1 _ _ | exact hb _ _ _ | refine Fr_ite ?_ ?_ | refine Fr_chk ?_ | refine Fr_nar ?_ | refine Fr_stk (fun _ _ => ?_) | refine Fr_mup (fun _ hi => PR_n (by decide) hi) (fun _ => ?_) | refine Fr_mset (fun _ hi => PR_n (by decide) hi) (fun _ => ?_) | refine Fr_bnd (fun _ => ?_) | refine Fr_bd ?_ (fun _ _ => ?_) | apply frd_X9_sick | assumption | decide | intro _)

theorem frd_X9_repair_L41_body (kx1 : Int32 → Mem → Ans) (kb : Int32 → Int32 → Mem → Ans) (a1 : Int32) (a2 : Int32) (hx1 : ∀ (b2 : Int32) (M0 : Mem), Fr PR M0 (kx1 b2 M0)) (hb : ∀ (b1 : Int32) (b2 : Int32) (M0 : Mem), Fr PR M0 (kb b1 b2 M0)) (M : Mem) : Fr PR M (d_X9_repair_L41_body kx1 kb a1 a2 M) := by
  unfold d_X9_repair_L41_body
  with_reducible repeat' (first | exact Fr_some | exact hx1 _ _ | exact hb _ _ _ | refine Fr_ite ?_ ?_ | refine Fr_chk ?_ | refine Fr_nar ?_ | refine Fr_stk (fun _ _ => ?_) | refine Fr_mup (fun _ hi => PR_n (by decide) hi) (fun _ => ?_) | refine Fr_mset (fun _ hi => PR_n (by decide) hi) (fun _ => ?_) | refine Fr_bnd (fun _ => ?_) | refine Fr_bd ?_ (fun _ _ => ?_) | apply frd_X9_bases | apply frd_X9_of | apply frd_X9_first | apply frd_X9_puts | apply frd_X9_repair_B113 | assumption | decide | intro _)

theorem frd_X9_repair_L41 (kx1 : Int32 → Mem → Ans) (hx1 : ∀ (b2 : Int32) (M0 : Mem), Fr PR M0 (kx1 b2 M0)) : ∀ (n : Nat) (a1 : Int32) (a2 : Int32) (M : Mem), Fr PR M (d_X9_repair_L41 kx1 n a1 a2 M) := by
  intro n
  induction n with
  | zero => intro a1 a2 M; exact Fr_none
  | succ n ih => intro a1 a2 M; exact frd_X9_repair_L41_body kx1 _ a1 a2 hx1 ih M

theorem frd_X9_repair (M : Mem) : Fr PR M (d_X9_repair M) := by
  unfold d_X9_repair
  with_reducible repeat' (first | exact Fr_some | refine Fr_ite ?_ ?_ | refine Fr_chk ?_ | refine Fr_nar ?_ | refine Fr_stk (fun _ _ => ?_) | refine Fr_mup (fun _ hi => PR_n (by decide) hi) (fun _ => ?_) | refine Fr_mset (fun _ hi => PR_n (by decide) hi) (fun _ => ?_) | refine Fr_bnd (fun _ => ?_) | refine Fr_bd ?_ (fun _ _ => ?_) | apply frd_X9_repair_L2 | apply frd_X9_sick | apply frd_X9_record | apply frd_X9_repair_L41 | assumption | decide | intro _)

theorem frd_X9_goes_L2_body (kx1 : Mem → Ans) (kb : Int32 → Mem → Ans) (a1 : Int32) (hx1 : ∀ (M0 : Mem), Fr PR M0 (kx1 M0)) (hb : ∀ (b1 : Int32) (M0 : Mem), Fr PR M0 (kb b1 M0)) (M : Mem) : Fr PR M (d_X9_goes_L2_body kx1 kb a1 M) := by
  unfold d_X9_goes_L2_body
  with_reducible repeat' (first | exact Fr_some | exact hx1 _ | exact hb _ _ | refine Fr_ite ?_ ?_ | refine Fr_chk ?_ | refine Fr_nar ?_ | refine Fr_stk (fun _ _ => ?_) | refine Fr_mup (fun _ hi => PR_n (by decide) hi) (fun _ => ?_) | refine Fr_mset (fun _ hi => PR_n (by decide) hi) (fun _ => ?_) | refine Fr_bnd (fun _ => ?_) | refine Fr_bd ?_ (fun _ _ => ?_) | assumption | decide | intro _)

theorem frd_X9_goes_L2 (kx1 : Mem → Ans) (hx1 : ∀ (M0 : Mem), Fr PR M0 (kx1 M0)) : ∀ (n : Nat) (a1 : Int32) (M : Mem), Fr PR M (d_X9_goes_L2 kx1 n a1 M) := by
  intro n
  induction n with
  | zero => intro a1 M; exact Fr_none
  | succ n ih => intro a1 M; exact frd_X9_goes_L2_body kx1 _ a1 hx1 ih M

theorem frd_X9_goes (M : Mem) : Fr PR M (d_X9_goes M) := by
  unfold d_X9_goes
  with_reducible repeat' (first | exact Fr_some | refine Fr_ite ?_ ?_ | refine Fr_chk ?_ | refine Fr_nar ?_ | refine Fr_stk (fun _ _ => ?_) | refine Fr_mup (fun _ hi => PR_n (by decide) hi) (fun _ => ?_) | refine Fr_mset (fun _ hi => PR_n (by decide) hi) (fun _ => ?_) | refine Fr_bnd (fun _ => ?_) | refine Fr_bd ?_ (fun _ _ => ?_) | apply frd_X9_goes_L2 | assumption | decide | intro _)

theorem frd_X9_comes_L2_body (kx1 : Mem → Ans) (kb : Int32 → Mem → Ans) (a1 : Int32) (hx1 : ∀ (M0 : Mem), Fr PR M0 (kx1 M0)) (hb : ∀ (b1 : Int32) (M0 : Mem), Fr PR M0 (kb b1 M0)) (M : Mem) : Fr PR M (d_X9_comes_L2_body kx1 kb a1 M) := by
  unfold d_X9_comes_L2_body
  with_reducible repeat' (first | exact Fr_some | exact hx1 _ | exact hb _ _ | refine Fr_ite ?_ ?_ | refine Fr_chk ?_ | refine Fr_nar ?_ | refine Fr_stk (fun _ _ => ?_) | refine Fr_mup (fun _ hi => PR_n (by decide) hi) (fun _ => ?_) | refine Fr_mset (fun _ hi => PR_n (by decide) hi) (fun _ => ?_) | refine Fr_bnd (fun _ => ?_) | refine Fr_bd ?_ (fun _ _ => ?_) | assumption | decide | intro _)

theorem frd_X9_comes_L2 (kx1 : Mem → Ans) (hx1 : ∀ (M0 : Mem), Fr PR M0 (kx1 M0)) : ∀ (n : Nat) (a1 : Int32) (M : Mem), Fr PR M (d_X9_comes_L2 kx1 n a1 M) := by
  intro n
  induction n with
  | zero => intro a1 M; exact Fr_none
  | succ n ih => intro a1 M; exact frd_X9_comes_L2_body kx1 _ a1 hx1 ih M

theorem frd_X9_comes (M : Mem) : Fr PR M (d_X9_comes M) := by
  unfold d_X9_comes
  with_reducible repeat' (first | exact Fr_some | refine Fr_ite ?_ ?_ | refine Fr_chk ?_ | refine Fr_nar ?_ | refine Fr_stk (fun _ _ => ?_) | refine Fr_mup (fun _ hi => PR_n (by decide) hi) (fun _ => ?_) | refine Fr_mset (fun _ hi => PR_n (by decide) hi) (fun _ => ?_) | refine Fr_bnd (fun _ => ?_) | refine Fr_bd ?_ (fun _ _ => ?_) | apply frd_X9_comes_L2 | assumption | decide | intro _)

theorem frd_X9_wish_B63 (a1 : Int32) (a2 : Int32) (a3 : Int32) (a4 : Int32) (M : Mem) : Fr PR M (d_X9_wish_B63 a1 a2 a3 a4 M) := by
  unfold d_X9_wish_B63
  with_reducible repeat' (first | exact Fr_some | refine Fr_ite ?_ ?_ | refine Fr_chk ?_ | refine Fr_nar ?_ | refine Fr_stk (fun _ _ => ?_) | refine Fr_mup (fun _ hi => PR_n (by decide) hi) (fun _ => ?_) | refine Fr_mset (fun _ hi => PR_n (by decide) hi) (fun _ => ?_) | refine Fr_bnd (fun _ => ?_) | refine Fr_bd ?_ (fun _ _ => ?_) | apply frd_X9_comes | apply frd_X9_record | apply frd_X9_grants | assumption | decide | intro _)

theorem frd_X9_wish (p1 : Int32) (p2 : Int32) (p3 : Int32) (M : Mem) : Fr PR M (d_X9_wish p1 p2 p3 M) := by
  unfold d_X9_wish
  with_reducible repeat' (first | exact Fr_some | refine Fr_ite ?_ ?_ | refine Fr_chk ?_ | refine Fr_nar ?_ | refine Fr_stk (fun _ _ => ?_) | refine Fr_mup (fun _ hi => PR_n (by decide) hi) (fun _ => ?_) | refine Fr_mset (fun _ hi => PR_n (by decide) hi) (fun _ => ?_) | refine Fr_bnd (fun _ => ?_) | refine Fr_bd ?_ (fun _ _ => ?_) | apply frd_X9_noRobot | apply frd_X9_noRecipe | apply frd_X9_isStart | apply frd_X9_goes | apply frd_X9_grants | apply frd_X9_wish_B63 | assumption | decide | intro _)

theorem frd_X9_unwish (p1 : Int32) (M : Mem) : Fr PR M (d_X9_unwish p1 M) := by
  unfold d_X9_unwish
  with_reducible repeat' (first | exact Fr_some | refine Fr_ite ?_ ?_ | refine Fr_chk ?_ | refine Fr_nar ?_ | refine Fr_stk (fun _ _ => ?_) | refine Fr_mup (fun _ hi => PR_n (by decide) hi) (fun _ => ?_) | refine Fr_mset (fun _ hi => PR_n (by decide) hi) (fun _ => ?_) | refine Fr_bnd (fun _ => ?_) | refine Fr_bd ?_ (fun _ _ => ?_) | apply frd_X9_in | apply frd_X9_record | apply frd_X9_ofWish | apply frd_X9_leaves | assumption | decide | intro _)

theorem frd_X9_draws_B163 (a3 : Int32) (s0 : Int32) (s1 : Int32) (s2 : Int32) (M : Mem) : Fr PR M (d_X9_draws_B163 a3 s0 s1 s2 M) := by
  unfold d_X9_draws_B163
  with_reducible repeat' (first | exact Fr_some | refine Fr_ite ?_ ?_ | refine Fr_chk ?_ | refine Fr_nar ?_ | refine Fr_stk (fun _ _ => ?_) | refine Fr_mup (fun _ hi => PR_n (by decide) hi) (fun _ => ?_) | refine Fr_mset (fun _ hi => PR_n (by decide) hi) (fun _ => ?_) | refine Fr_bnd (fun _ => ?_) | refine Fr_bd ?_ (fun _ _ => ?_) | apply frd_X9_puts | assumption | decide | intro _)

theorem frd_X9_draws_B106 (a1 : Int32) (a3 : Int32) (s0 : Int32) (M : Mem) : Fr PR M (d_X9_draws_B106 a1 a3 s0 M) := by
  unfold d_X9_draws_B106
  with_reducible repeat' (first | exact Fr_some | refine Fr_ite ?_ ?_ | refine Fr_chk ?_ | refine Fr_nar ?_ | refine Fr_stk (fun _ _ => ?_) | refine Fr_mup (fun _ hi => PR_n (by decide) hi) (fun _ => ?_) | refine Fr_mset (fun _ hi => PR_n (by decide) hi) (fun _ => ?_) | refine Fr_bnd (fun _ => ?_) | refine Fr_bd ?_ (fun _ _ => ?_) | apply frd_X9_of | apply frd_X9_puts | apply frd_X9_draws_B163 | assumption | decide | intro _)

theorem frd_X9_draws (p1 : Int32) (M : Mem) : Fr PR M (d_X9_draws p1 M) := by
  unfold d_X9_draws
  with_reducible repeat' (first | exact Fr_some | refine Fr_ite ?_ ?_ | refine Fr_chk ?_ | refine Fr_nar ?_ | refine Fr_stk (fun _ _ => ?_) | refine Fr_mup (fun _ hi => PR_n (by decide) hi) (fun _ => ?_) | refine Fr_mset (fun _ hi => PR_n (by decide) hi) (fun _ => ?_) | refine Fr_bnd (fun _ => ?_) | refine Fr_bd ?_ (fun _ _ => ?_) | apply frd_X9_of | apply frd_X9_ofRecipe | apply frd_X9_isOpen | apply frd_X9_in | apply frd_X9_draws_B106 | apply frd_X9_puts | assumption | decide | intro _)

theorem frd_X9_aTick_B89 (kx1 : Int32 → Mem → Ans) (kb : Int32 → Int32 → Mem → Ans) (a2 : Int32) (s0 : Int32) (s1 : Int32) (hx1 : ∀ (b1 : Int32) (M0 : Mem), Fr PR M0 (kx1 b1 M0)) (hb : ∀ (b1 : Int32) (b2 : Int32) (M0 : Mem), Fr PR M0 (kb b1 b2 M0)) (M : Mem) : Fr PR M (d_X9_aTick_B89 kx1 kb a2 s0 s1 M) := by
  unfold d_X9_aTick_B89
  with_reducible repeat' (first | exact Fr_some | exact hx1 _ _ | exact hb _ _ _ | refine Fr_ite ?_ ?_ | refine Fr_chk ?_ | refine Fr_nar ?_ | refine Fr_stk (fun _ _ => ?_) | refine Fr_mup (fun _ hi => PR_n (by decide) hi) (fun _ => ?_) | refine Fr_mset (fun _ hi => PR_n (by decide) hi) (fun _ => ?_) | refine Fr_bnd (fun _ => ?_) | refine Fr_bd ?_ (fun _ _ => ?_) | assumption | decide | intro _)

theorem frd_X9_aTick_L65_body (kx1 : Int32 → Mem → Ans) (kb : Int32 → Int32 → Mem → Ans) (a1 : Int32) (a2 : Int32) (hx1 : ∀ (b1 : Int32) (M0 : Mem), Fr PR M0 (kx1 b1 M0)) (hb : ∀ (b1 : Int32) (b2 : Int32) (M0 : Mem), Fr PR M0 (kb b1 b2 M0)) (M : Mem) : Fr PR M (d_X9_aTick_L65_body kx1 kb a1 a2 M) := by
  unfold d_X9_aTick_L65_body
  with_reducible repeat' (first | exact Fr_some | exact hx1 _ _ | exact hb _ _ _ | refine Fr_ite ?_ ?_ | refine Fr_chk ?_ | refine Fr_nar ?_ | refine Fr_stk (fun _ _ => ?_) | refine Fr_mup (fun _ hi => PR_n (by decide) hi) (fun _ => ?_) | refine Fr_mset (fun _ hi => PR_n (by decide) hi) (fun _ => ?_) | refine Fr_bnd (fun _ => ?_) | refine Fr_bd ?_ (fun _ _ => ?_) | apply frd_X9_draws | apply frd_X9_aTick_B89 | assumption | decide | intro _)

theorem frd_X9_aTick_L65 (kx1 : Int32 → Mem → Ans) (hx1 : ∀ (b1 : Int32) (M0 : Mem), Fr PR M0 (kx1 b1 M0)) : ∀ (n : Nat) (a1 : Int32) (a2 : Int32) (M : Mem), Fr PR M (d_X9_aTick_L65 kx1 n a1 a2 M) := by
  intro n
  induction n with
  | zero => intro a1 a2 M; exact Fr_none
  | succ n ih => intro a1 a2 M; exact frd_X9_aTick_L65_body kx1 _ a1 a2 hx1 ih M

theorem frd_X9_aTick_L99_body (a1 : Int32) (kx1 : Mem → Ans) (kb : Int32 → Mem → Ans) (a2 : Int32) (hx1 : ∀ (M0 : Mem), Fr PR M0 (kx1 M0)) (hb : ∀ (b2 : Int32) (M0 : Mem), Fr PR M0 (kb b2 M0)) (M : Mem) : Fr PR M (d_X9_aTick_L99_body a1 kx1 kb a2 M) := by
  unfold d_X9_aTick_L99_body
  with_reducible repeat' (first | exact Fr_some | exact hx1 _ | exact hb _ _ | refine Fr_ite ?_ ?_ | refine Fr_chk ?_ | refine Fr_nar ?_ | refine Fr_stk (fun _ _ => ?_) | refine Fr_mup (fun _ hi => PR_n (by decide) hi) (fun _ => ?_) | refine Fr_mset (fun _ hi => PR_n (by decide) hi) (fun _ => ?_) | refine Fr_bnd (fun _ => ?_) | refine Fr_bd ?_ (fun _ _ => ?_) | apply frd_X9_ofWish | apply frd_X9_leaves | assumption | decide | intro _)

theorem frd_X9_aTick_L99 (a1 : Int32) (kx1 : Mem → Ans) (hx1 : ∀ (M0 : Mem), Fr PR M0 (kx1 M0)) : ∀ (n : Nat) (a2 : Int32) (M : Mem), Fr PR M (d_X9_aTick_L99 a1 kx1 n a2 M) := by
  intro n
  induction n with
  | zero => intro a2 M; exact Fr_none
  | succ n ih => intro a2 M; exact frd_X9_aTick_L99_body a1 kx1 _ a2 hx1 ih M

theorem frd_X9_aTick_B60 (s0 : Int32) (s1 : Int32) (M : Mem) : Fr PR M (d_X9_aTick_B60 s0 s1 M) := by
  unfold d_X9_aTick_B60
  with_reducible repeat' (first | exact Fr_some | refine Fr_ite ?_ ?_ | refine Fr_chk ?_ | refine Fr_nar ?_ | refine Fr_stk (fun _ _ => ?_) | refine Fr_mup (fun _ hi => PR_n (by decide) hi) (fun _ => ?_) | refine Fr_mset (fun _ hi => PR_n (by decide) hi) (fun _ => ?_) | refine Fr_bnd (fun _ => ?_) | refine Fr_bd ?_ (fun _ _ => ?_) | apply frd_X9_aTick_L65 | apply frd_X9_aTick_L99 | assumption | decide | intro _)

theorem frd_X9_aTick (M : Mem) : Fr PR M (d_X9_aTick M) := by
  unfold d_X9_aTick
  with_reducible repeat' (first | exact Fr_some | refine Fr_ite ?_ ?_ | refine Fr_chk ?_ | refine Fr_nar ?_ | refine Fr_stk (fun _ _ => ?_) | refine Fr_mup (fun _ hi => PR_n (by decide) hi) (fun _ => ?_) | refine Fr_mset (fun _ hi => PR_n (by decide) hi) (fun _ => ?_) | refine Fr_bnd (fun _ => ?_) | refine Fr_bd ?_ (fun _ _ => ?_) | apply frd_X9_aTick_B60 | assumption | decide | intro _)

theorem frd_X9_pass_L39_body (a1 : Int32) (kx1 : Int32 → Mem → Ans) (kb : Int32 → Int32 → Mem → Ans) (a2 : Int32) (a3 : Int32) (hx1 : ∀ (b2 : Int32) (M0 : Mem), Fr PR M0 (kx1 b2 M0)) (hb : ∀ (b2 : Int32) (b3 : Int32) (M0 : Mem), Fr PR M0 (kb b2 b3 M0)) (M : Mem) : Fr PR M (d_X9_pass_L39_body a1 kx1 kb a2 a3 M) := by
  unfold d_X9_pass_L39_body
  with_reducible repeat' (first | exact Fr_some | exact hx1 _ _ | exact hb _ _ _ | refine Fr_ite ?_ ?_ | refine Fr_chk ?_ | refine Fr_nar ?_ | refine Fr_stk (fun _ _ => ?_) | refine Fr_mup (fun _ hi => PR_n (by decide) hi) (fun _ => ?_) | refine Fr_mset (fun _ hi => PR_n (by decide) hi) (fun _ => ?_) | refine Fr_bnd (fun _ => ?_) | refine Fr_bd ?_ (fun _ _ => ?_) | apply frd_X9_aTick | assumption | decide | intro _)

theorem frd_X9_pass_L39 (a1 : Int32) (kx1 : Int32 → Mem → Ans) (hx1 : ∀ (b2 : Int32) (M0 : Mem), Fr PR M0 (kx1 b2 M0)) : ∀ (n : Nat) (a2 : Int32) (a3 : Int32) (M : Mem), Fr PR M (d_X9_pass_L39 a1 kx1 n a2 a3 M) := by
  intro n
  induction n with
  | zero => intro a2 a3 M; exact Fr_none
  | succ n ih => intro a2 a3 M; exact frd_X9_pass_L39_body a1 kx1 _ a2 a3 hx1 ih M

theorem frd_X9_pass (p1 : Int32) (M : Mem) : Fr PR M (d_X9_pass p1 M) := by
  unfold d_X9_pass
  with_reducible repeat' (first | exact Fr_some | refine Fr_ite ?_ ?_ | refine Fr_chk ?_ | refine Fr_nar ?_ | refine Fr_stk (fun _ _ => ?_) | refine Fr_mup (fun _ hi => PR_n (by decide) hi) (fun _ => ?_) | refine Fr_mset (fun _ hi => PR_n (by decide) hi) (fun _ => ?_) | refine Fr_bnd (fun _ => ?_) | refine Fr_bd ?_ (fun _ _ => ?_) | apply frd_X9_in | apply frd_X9_record | apply frd_X9_pass_L39 | assumption | decide | intro _)

theorem frd_X9_type (p1 : Int32) (M : Mem) : Fr PR M (d_X9_type p1 M) := by
  unfold d_X9_type
  with_reducible repeat' (first | exact Fr_some | refine Fr_ite ?_ ?_ | refine Fr_chk ?_ | refine Fr_nar ?_ | refine Fr_stk (fun _ _ => ?_) | refine Fr_mup (fun _ hi => PR_n (by decide) hi) (fun _ => ?_) | refine Fr_mset (fun _ hi => PR_n (by decide) hi) (fun _ => ?_) | refine Fr_bnd (fun _ => ?_) | refine Fr_bd ?_ (fun _ _ => ?_) | assumption | decide | intro _)

theorem frd_X9_clearText (M : Mem) : Fr PR M (d_X9_clearText M) := by
  unfold d_X9_clearText
  with_reducible repeat' (first | exact Fr_some | refine Fr_ite ?_ ?_ | refine Fr_chk ?_ | refine Fr_nar ?_ | refine Fr_stk (fun _ _ => ?_) | refine Fr_mup (fun _ hi => PR_n (by decide) hi) (fun _ => ?_) | refine Fr_mset (fun _ hi => PR_n (by decide) hi) (fun _ => ?_) | refine Fr_bnd (fun _ => ?_) | refine Fr_bd ?_ (fun _ _ => ?_) | assumption | decide | intro _)

theorem frd_X9_isDigit (M : Mem) : Fr PR M (d_X9_isDigit M) := by
  unfold d_X9_isDigit
  with_reducible repeat' (first | exact Fr_some | refine Fr_ite ?_ ?_ | refine Fr_chk ?_ | refine Fr_nar ?_ | refine Fr_stk (fun _ _ => ?_) | refine Fr_mup (fun _ hi => PR_n (by decide) hi) (fun _ => ?_) | refine Fr_mset (fun _ hi => PR_n (by decide) hi) (fun _ => ?_) | refine Fr_bnd (fun _ => ?_) | refine Fr_bd ?_ (fun _ _ => ?_) | apply frd_X9_in | assumption | decide | intro _)

theorem frd_X9_takes (p1 : Int32) (M : Mem) : Fr PR M (d_X9_takes p1 M) := by
  unfold d_X9_takes
  with_reducible repeat' (first | exact Fr_some | refine Fr_ite ?_ ?_ | refine Fr_chk ?_ | refine Fr_nar ?_ | refine Fr_stk (fun _ _ => ?_) | refine Fr_mup (fun _ hi => PR_n (by decide) hi) (fun _ => ?_) | refine Fr_mset (fun _ hi => PR_n (by decide) hi) (fun _ => ?_) | refine Fr_bnd (fun _ => ?_) | refine Fr_bd ?_ (fun _ _ => ?_) | assumption | decide | intro _)

theorem frd_X9_takesNumber_L37_body (a1 : Int32) (kx1 : Mem → Ans) (kb : Int32 → Mem → Ans) (a2 : Int32) (hx1 : ∀ (M0 : Mem), Fr PR M0 (kx1 M0)) (hb : ∀ (b2 : Int32) (M0 : Mem), Fr PR M0 (kb b2 M0)) (M : Mem) : Fr PR M (d_X9_takesNumber_L37_body a1 kx1 kb a2 M) := by
  unfold d_X9_takesNumber_L37_body
  with_reducible repeat' (first | exact Fr_some | exact hx1 _ | exact hb _ _ | refine Fr_ite ?_ ?_ | refine Fr_chk ?_ | refine Fr_nar ?_ | refine Fr_stk (fun _ _ => ?_) | refine Fr_mup (fun _ hi => PR_n (by decide) hi) (fun _ => ?_) | refine Fr_mset (fun _ hi => PR_n (by decide) hi) (fun _ => ?_) | refine Fr_bnd (fun _ => ?_) | refine Fr_bd ?_ (fun _ _ => ?_) | apply frd_X9_isDigit | assumption | decide | intro _)

theorem frd_X9_takesNumber_L37 (a1 : Int32) (kx1 : Mem → Ans) (hx1 : ∀ (M0 : Mem), Fr PR M0 (kx1 M0)) : ∀ (n : Nat) (a2 : Int32) (M : Mem), Fr PR M (d_X9_takesNumber_L37 a1 kx1 n a2 M) := by
  intro n
  induction n with
  | zero => intro a2 M; exact Fr_none
  | succ n ih => intro a2 M; exact frd_X9_takesNumber_L37_body a1 kx1 _ a2 hx1 ih M

theorem frd_X9_takesNumber (p1 : Int32) (M : Mem) : Fr PR M (d_X9_takesNumber p1 M) := by
  unfold d_X9_takesNumber
  with_reducible repeat' (first | exact Fr_some | refine Fr_ite ?_ ?_ | refine Fr_chk ?_ | refine Fr_nar ?_ | refine Fr_stk (fun _ _ => ?_) | refine Fr_mup (fun _ hi => PR_n (by decide) hi) (fun _ => ?_) | refine Fr_mset (fun _ hi => PR_n (by decide) hi) (fun _ => ?_) | refine Fr_bnd (fun _ => ?_) | refine Fr_bd ?_ (fun _ _ => ?_) | apply frd_X9_isDigit | apply frd_X9_takesNumber_L37 | assumption | decide | intro _)

theorem frd_X9_takesBooking (M : Mem) : Fr PR M (d_X9_takesBooking M) := by
  unfold d_X9_takesBooking
  with_reducible repeat' (first | exact Fr_some | refine Fr_ite ?_ ?_ | refine Fr_chk ?_ | refine Fr_nar ?_ | refine Fr_stk (fun _ _ => ?_) | refine Fr_mup (fun _ hi => PR_n (by decide) hi) (fun _ => ?_) | refine Fr_mset (fun _ hi => PR_n (by decide) hi) (fun _ => ?_) | refine Fr_bnd (fun _ => ?_) | refine Fr_bd ?_ (fun _ _ => ?_) | apply frd_X9_takesNumber | apply frd_X9_takes | assumption | decide | intro _)

theorem frd_X9_bookingsOfText_B42 (kx1 : Int32 → Mem → Ans) (kb : Int32 → Int32 → Mem → Ans) (a1 : Int32) (s0 : Int32) (hx1 : ∀ (b1 : Int32) (M0 : Mem), Fr PR M0 (kx1 b1 M0)) (hb : ∀ (b1 : Int32) (b2 : Int32) (M0 : Mem), Fr PR M0 (kb b1 b2 M0)) (M : Mem) : Fr PR M (d_X9_bookingsOfText_B42 kx1 kb a1 s0 M) := by
  unfold d_X9_bookingsOfText_B42
  with_reducible repeat' (first | exact Fr_some | exact hx1 _ _ | exact hb _ _ _ | refine Fr_ite ?_ ?_ | refine Fr_chk ?_ | refine Fr_nar ?_ | refine Fr_stk (fun _ _ => ?_) | refine Fr_mup (fun _ hi => PR_n (by decide) hi) (fun _ => ?_) | refine Fr_mset (fun _ hi => PR_n (by decide) hi) (fun _ => ?_) | refine Fr_bnd (fun _ => ?_) | refine Fr_bd ?_ (fun _ _ => ?_) | apply frd_X9_takes | assumption | decide | intro _)

theorem frd_X9_bookingsOfText_L9_body (kx1 : Int32 → Mem → Ans) (kb : Int32 → Int32 → Mem → Ans) (a1 : Int32) (a2 : Int32) (hx1 : ∀ (b1 : Int32) (M0 : Mem), Fr PR M0 (kx1 b1 M0)) (hb : ∀ (b1 : Int32) (b2 : Int32) (M0 : Mem), Fr PR M0 (kb b1 b2 M0)) (M : Mem) : Fr PR M (d_X9_bookingsOfText_L9_body kx1 kb a1 a2 M) := by
  unfold d_X9_bookingsOfText_L9_body
  with_reducible repeat' (first | exact Fr_some | exact hx1 _ _ | exact hb _ _ _ | refine Fr_ite ?_ ?_ | refine Fr_chk ?_ | refine Fr_nar ?_ | refine Fr_stk (fun _ _ => ?_) | refine Fr_mup (fun _ hi => PR_n (by decide) hi) (fun _ => ?_) | refine Fr_mset (fun _ hi => PR_n (by decide) hi) (fun _ => ?_) | refine Fr_bnd (fun _ => ?_) | refine Fr_bd ?_ (fun _ _ => ?_) | apply frd_X9_takesBooking | apply frd_X9_bookingsOfText_B42 | assumption | decide | intro _)

theorem frd_X9_bookingsOfText_L9 (kx1 : Int32 → Mem → Ans) (hx1 : ∀ (b1 : Int32) (M0 : Mem), Fr PR M0 (kx1 b1 M0)) : ∀ (n : Nat) (a1 : Int32) (a2 : Int32) (M : Mem), Fr PR M (d_X9_bookingsOfText_L9 kx1 n a1 a2 M) := by
  intro n
  induction n with
  | zero => intro a1 a2 M; exact Fr_none
  | succ n ih => intro a1 a2 M; exact frd_X9_bookingsOfText_L9_body kx1 _ a1 a2 hx1 ih M

theorem frd_X9_bookingsOfText (M : Mem) : Fr PR M (d_X9_bookingsOfText M) := by
  unfold d_X9_bookingsOfText
  with_reducible repeat' (first | exact Fr_some | refine Fr_ite ?_ ?_ | refine Fr_chk ?_ | refine Fr_nar ?_ | refine Fr_stk (fun _ _ => ?_) | refine Fr_mup (fun _ hi => PR_n (by decide) hi) (fun _ => ?_) | refine Fr_mset (fun _ hi => PR_n (by decide) hi) (fun _ => ?_) | refine Fr_bnd (fun _ => ?_) | refine Fr_bd ?_ (fun _ _ => ?_) | apply frd_X9_bookingsOfText_L9 | assumption | decide | intro _)

theorem frd_X9_trades_L2_body (kx1 : Mem → Ans) (kb : Int32 → Mem → Ans) (a1 : Int32) (hx1 : ∀ (M0 : Mem), Fr PR M0 (kx1 M0)) (hb : ∀ (b1 : Int32) (M0 : Mem), Fr PR M0 (kb b1 M0)) (M : Mem) : Fr PR M (d_X9_trades_L2_body kx1 kb a1 M) := by
  unfold d_X9_trades_L2_body
  with_reducible repeat' (first | exact Fr_some | exact hx1 _ | exact hb _ _ | refine Fr_ite ?_ ?_ | refine Fr_chk ?_ | refine Fr_nar ?_ | refine Fr_stk (fun _ _ => ?_) | refine Fr_mup (fun _ hi => PR_n (by decide) hi) (fun _ => ?_) | refine Fr_mset (fun _ hi => PR_n (by decide) hi) (fun _ => ?_) | refine Fr_bnd (fun _ => ?_) | refine Fr_bd ?_ (fun _ _ => ?_) | assumption | decide | intro _)

theorem frd_X9_trades_L2 (kx1 : Mem → Ans) (hx1 : ∀ (M0 : Mem), Fr PR M0 (kx1 M0)) : ∀ (n : Nat) (a1 : Int32) (M : Mem), Fr PR M (d_X9_trades_L2 kx1 n a1 M) := by
  intro n
  induction n with
  | zero => intro a1 M; exact Fr_none
  | succ n ih => intro a1 M; exact frd_X9_trades_L2_body kx1 _ a1 hx1 ih M

theorem frd_X9_trades (M : Mem) : Fr PR M (d_X9_trades M) := by
  unfold d_X9_trades
  with_reducible repeat' (first | exact Fr_some | refine Fr_ite ?_ ?_ | refine Fr_chk ?_ | refine Fr_nar ?_ | refine Fr_stk (fun _ _ => ?_) | refine Fr_mup (fun _ hi => PR_n (by decide) hi) (fun _ => ?_) | refine Fr_mset (fun _ hi => PR_n (by decide) hi) (fun _ => ?_) | refine Fr_bnd (fun _ => ?_) | refine Fr_bd ?_ (fun _ _ => ?_) | apply frd_X9_trades_L2 | assumption | decide | intro _)

theorem frd_X9_bookAll_L30_body (a1 : Int32) (kx1 : Mem → Ans) (kb : Int32 → Mem → Ans) (a2 : Int32) (hx1 : ∀ (M0 : Mem), Fr PR M0 (kx1 M0)) (hb : ∀ (b2 : Int32) (M0 : Mem), Fr PR M0 (kb b2 M0)) (M : Mem) : Fr PR M (d_X9_bookAll_L30_body a1 kx1 kb a2 M) := by
  unfold d_X9_bookAll_L30_body
  with_reducible repeat' (first | exact Fr_some | exact hx1 _ | exact hb _ _ | refine Fr_ite ?_ ?_ | refine Fr_chk ?_ | refine Fr_nar ?_ | refine Fr_stk (fun _ _ => ?_) | refine Fr_mup (fun _ hi => PR_n (by decide) hi) (fun _ => ?_) | refine Fr_mset (fun _ hi => PR_n (by decide) hi) (fun _ => ?_) | refine Fr_bnd (fun _ => ?_) | refine Fr_bd ?_ (fun _ _ => ?_) | apply frd_X9_takesBooking | apply frd_X9_wrong | apply frd_X9_adds | apply frd_X9_comes | assumption | decide | intro _)

theorem frd_X9_bookAll_L30 (a1 : Int32) (kx1 : Mem → Ans) (hx1 : ∀ (M0 : Mem), Fr PR M0 (kx1 M0)) : ∀ (n : Nat) (a2 : Int32) (M : Mem), Fr PR M (d_X9_bookAll_L30 a1 kx1 n a2 M) := by
  intro n
  induction n with
  | zero => intro a2 M; exact Fr_none
  | succ n ih => intro a2 M; exact frd_X9_bookAll_L30_body a1 kx1 _ a2 hx1 ih M

theorem frd_X9_bookAll (M : Mem) : Fr PR M (d_X9_bookAll M) := by
  unfold d_X9_bookAll
  with_reducible repeat' (first | exact Fr_some | refine Fr_ite ?_ ?_ | refine Fr_chk ?_ | refine Fr_nar ?_ | refine Fr_stk (fun _ _ => ?_) | refine Fr_mup (fun _ hi => PR_n (by decide) hi) (fun _ => ?_) | refine Fr_mset (fun _ hi => PR_n (by decide) hi) (fun _ => ?_) | refine Fr_bnd (fun _ => ?_) | refine Fr_bd ?_ (fun _ _ => ?_) | apply frd_X9_bookingsOfText | apply frd_X9_goes | apply frd_X9_bookAll_L30 | apply frd_X9_trades | apply frd_X9_record | assumption | decide | intro _)

theorem frd_X9_undo_L22_body (kx1 : Mem → Ans) (kb : Int32 → Mem → Ans) (a1 : Int32) (hx1 : ∀ (M0 : Mem), Fr PR M0 (kx1 M0)) (hb : ∀ (b1 : Int32) (M0 : Mem), Fr PR M0 (kb b1 M0)) (M : Mem) : Fr PR M (d_X9_undo_L22_body kx1 kb a1 M) := by
  unfold d_X9_undo_L22_body
  with_reducible repeat' (first | exact Fr_some | exact hx1 _ | exact hb _ _ | refine Fr_ite ?_ ?_ | refine Fr_chk ?_ | refine Fr_nar ?_ | refine Fr_stk (fun _ _ => ?_) | refine Fr_mup (fun _ hi => PR_n (by decide) hi) (fun _ => ?_) | refine Fr_mset (fun _ hi => PR_n (by decide) hi) (fun _ => ?_) | refine Fr_bnd (fun _ => ?_) | refine Fr_bd ?_ (fun _ _ => ?_) | assumption | decide | intro _)

theorem frd_X9_undo_L22 (kx1 : Mem → Ans) (hx1 : ∀ (M0 : Mem), Fr PR M0 (kx1 M0)) : ∀ (n : Nat) (a1 : Int32) (M : Mem), Fr PR M (d_X9_undo_L22 kx1 n a1 M) := by
  intro n
  induction n with
  | zero => intro a1 M; exact Fr_none
  | succ n ih => intro a1 M; exact frd_X9_undo_L22_body kx1 _ a1 hx1 ih M

theorem frd_X9_undo (M : Mem) : Fr PR M (d_X9_undo M) := by
  unfold d_X9_undo
  with_reducible repeat' (first | exact Fr_some | refine Fr_ite ?_ ?_ | refine Fr_chk ?_ | refine Fr_nar ?_ | refine Fr_stk (fun _ _ => ?_) | refine Fr_mup (fun _ hi => PR_n (by decide) hi) (fun _ => ?_) | refine Fr_mset (fun _ hi => PR_n (by decide) hi) (fun _ => ?_) | refine Fr_bnd (fun _ => ?_) | refine Fr_bd ?_ (fun _ _ => ?_) | apply frd_X9_undo_L22 | assumption | decide | intro _)

theorem frd_X9_keep_L2_body (kx1 : Mem → Ans) (kb : Int32 → Mem → Ans) (a1 : Int32) (hx1 : ∀ (M0 : Mem), Fr PR M0 (kx1 M0)) (hb : ∀ (b1 : Int32) (M0 : Mem), Fr PR M0 (kb b1 M0)) (M : Mem) : Fr PR M (d_X9_keep_L2_body kx1 kb a1 M) := by
  unfold d_X9_keep_L2_body
  with_reducible repeat' (first | exact Fr_some | exact hx1 _ | exact hb _ _ | refine Fr_ite ?_ ?_ | refine Fr_chk ?_ | refine Fr_nar ?_ | refine Fr_stk (fun _ _ => ?_) | refine Fr_mup (fun _ hi => PR_n (by decide) hi) (fun _ => ?_) | refine Fr_mset (fun _ hi => PR_n (by decide) hi) (fun _ => ?_) | refine Fr_bnd (fun _ => ?_) | refine Fr_bd ?_ (fun _ _ => ?_) | assumption | decide | intro _)

theorem frd_X9_keep_L2 (kx1 : Mem → Ans) (hx1 : ∀ (M0 : Mem), Fr PR M0 (kx1 M0)) : ∀ (n : Nat) (a1 : Int32) (M : Mem), Fr PR M (d_X9_keep_L2 kx1 n a1 M) := by
  intro n
  induction n with
  | zero => intro a1 M; exact Fr_none
  | succ n ih => intro a1 M; exact frd_X9_keep_L2_body kx1 _ a1 hx1 ih M

theorem frd_X9_keep (M : Mem) : Fr PR M (d_X9_keep M) := by
  unfold d_X9_keep
  with_reducible repeat' (first | exact Fr_some | refine Fr_ite ?_ ?_ | refine Fr_chk ?_ | refine Fr_nar ?_ | refine Fr_stk (fun _ _ => ?_) | refine Fr_mup (fun _ hi => PR_n (by decide) hi) (fun _ => ?_) | refine Fr_mset (fun _ hi => PR_n (by decide) hi) (fun _ => ?_) | refine Fr_bnd (fun _ => ?_) | refine Fr_bd ?_ (fun _ _ => ?_) | apply frd_X9_keep_L2 | assumption | decide | intro _)

theorem frd_X9_restore_L16_body (kx1 : Mem → Ans) (kb : Int32 → Mem → Ans) (a1 : Int32) (hx1 : ∀ (M0 : Mem), Fr PR M0 (kx1 M0)) (hb : ∀ (b1 : Int32) (M0 : Mem), Fr PR M0 (kb b1 M0)) (M : Mem) : Fr PR M (d_X9_restore_L16_body kx1 kb a1 M) := by
  unfold d_X9_restore_L16_body
  with_reducible repeat' (first | exact Fr_some | exact hx1 _ | exact hb _ _ | refine Fr_ite ?_ ?_ | refine Fr_chk ?_ | refine Fr_nar ?_ | refine Fr_stk (fun _ _ => ?_) | refine Fr_mup (fun _ hi => PR_n (by decide) hi) (fun _ => ?_) | refine Fr_mset (fun _ hi => PR_n (by decide) hi) (fun _ => ?_) | refine Fr_bnd (fun _ => ?_) | refine Fr_bd ?_ (fun _ _ => ?_) | assumption | decide | intro _)

theorem frd_X9_restore_L16 (kx1 : Mem → Ans) (hx1 : ∀ (M0 : Mem), Fr PR M0 (kx1 M0)) : ∀ (n : Nat) (a1 : Int32) (M : Mem), Fr PR M (d_X9_restore_L16 kx1 n a1 M) := by
  intro n
  induction n with
  | zero => intro a1 M; exact Fr_none
  | succ n ih => intro a1 M; exact frd_X9_restore_L16_body kx1 _ a1 hx1 ih M

theorem frd_X9_restore (M : Mem) : Fr PR M (d_X9_restore M) := by
  unfold d_X9_restore
  with_reducible repeat' (first | exact Fr_some | refine Fr_ite ?_ ?_ | refine Fr_chk ?_ | refine Fr_nar ?_ | refine Fr_stk (fun _ _ => ?_) | refine Fr_mup (fun _ hi => PR_n (by decide) hi) (fun _ => ?_) | refine Fr_mset (fun _ hi => PR_n (by decide) hi) (fun _ => ?_) | refine Fr_bnd (fun _ => ?_) | refine Fr_bd ?_ (fun _ _ => ?_) | apply frd_X9_record | apply frd_X9_restore_L16 | assumption | decide | intro _)

theorem frd_X9_bookings_B70 (kx1 : Int32 → Mem → Ans) (kb : Int32 → Int32 → Mem → Ans) (a1 : Int32) (a2 : Int32) (a3 : Int32) (a4 : Int32) (a6 : Int32) (s0 : Int32) (s1 : Int32) (hx1 : ∀ (b5 : Int32) (M0 : Mem), Fr PR M0 (kx1 b5 M0)) (hb : ∀ (b5 : Int32) (b6 : Int32) (M0 : Mem), Fr PR M0 (kb b5 b6 M0)) (M : Mem) : Fr PR M (d_X9_bookings_B70 kx1 kb a1 a2 a3 a4 a6 s0 s1 M) := by
  unfold d_X9_bookings_B70
  with_reducible repeat' (first | exact Fr_some | exact hx1 _ _ | exact hb _ _ _ | refine Fr_ite ?_ ?_ | refine Fr_chk ?_ | refine Fr_nar ?_ | refine Fr_stk (fun _ _ => ?_) | refine Fr_mup (fun _ hi => PR_n (by decide) hi) (fun _ => ?_) | refine Fr_mset (fun _ hi => PR_n (by decide) hi) (fun _ => ?_) | refine Fr_bnd (fun _ => ?_) | refine Fr_bd ?_ (fun _ _ => ?_) | assumption | decide | intro _)

theorem frd_X9_bookings_B69 (kx1 : Int32 → Mem → Ans) (kb : Int32 → Int32 → Mem → Ans) (a1 : Int32) (a2 : Int32) (a3 : Int32) (a4 : Int32) (a6 : Int32) (s0 : Int32) (hx1 : ∀ (b5 : Int32) (M0 : Mem), Fr PR M0 (kx1 b5 M0)) (hb : ∀ (b5 : Int32) (b6 : Int32) (M0 : Mem), Fr PR M0 (kb b5 b6 M0)) (M : Mem) : Fr PR M (d_X9_bookings_B69 kx1 kb a1 a2 a3 a4 a6 s0 M) := by
  unfold d_X9_bookings_B69
  with_reducible repeat' (first | exact Fr_some | exact hx1 _ _ | exact hb _ _ _ | refine Fr_ite ?_ ?_ | refine Fr_chk ?_ | refine Fr_nar ?_ | refine Fr_stk (fun _ _ => ?_) | refine Fr_mup (fun _ hi => PR_n (by decide) hi) (fun _ => ?_) | refine Fr_mset (fun _ hi => PR_n (by decide) hi) (fun _ => ?_) | refine Fr_bnd (fun _ => ?_) | refine Fr_bd ?_ (fun _ _ => ?_) | apply frd_X9_bookings_B70 | assumption | decide | intro _)

theorem frd_X9_bookings_B49 (kx1 : Int32 → Mem → Ans) (kb : Int32 → Int32 → Mem → Ans) (a1 : Int32) (a2 : Int32) (a3 : Int32) (a4 : Int32) (a6 : Int32) (s0 : Int32) (hx1 : ∀ (b5 : Int32) (M0 : Mem), Fr PR M0 (kx1 b5 M0)) (hb : ∀ (b5 : Int32) (b6 : Int32) (M0 : Mem), Fr PR M0 (kb b5 b6 M0)) (M : Mem) : Fr PR M (d_X9_bookings_B49 kx1 kb a1 a2 a3 a4 a6 s0 M) := by
  unfold d_X9_bookings_B49
  with_reducible repeat' (first | exact Fr_some | exact hx1 _ _ | exact hb _ _ _ | refine Fr_ite ?_ ?_ | refine Fr_chk ?_ | refine Fr_nar ?_ | refine Fr_stk (fun _ _ => ?_) | refine Fr_mup (fun _ hi => PR_n (by decide) hi) (fun _ => ?_) | refine Fr_mset (fun _ hi => PR_n (by decide) hi) (fun _ => ?_) | refine Fr_bnd (fun _ => ?_) | refine Fr_bd ?_ (fun _ _ => ?_) | apply frd_X9_of | apply frd_X9_in | apply frd_X9_bookings_B69 | apply frd_X9_bookings_B70 | assumption | decide | intro _)

theorem frd_X9_bookings_B34 (kx1 : Int32 → Mem → Ans) (kb : Int32 → Int32 → Mem → Ans) (a1 : Int32) (a2 : Int32) (a3 : Int32) (a4 : Int32) (a6 : Int32) (s0 : Int32) (hx1 : ∀ (b5 : Int32) (M0 : Mem), Fr PR M0 (kx1 b5 M0)) (hb : ∀ (b5 : Int32) (b6 : Int32) (M0 : Mem), Fr PR M0 (kb b5 b6 M0)) (M : Mem) : Fr PR M (d_X9_bookings_B34 kx1 kb a1 a2 a3 a4 a6 s0 M) := by
  unfold d_X9_bookings_B34
  with_reducible repeat' (first | exact Fr_some | exact hx1 _ _ | exact hb _ _ _ | refine Fr_ite ?_ ?_ | refine Fr_chk ?_ | refine Fr_nar ?_ | refine Fr_stk (fun _ _ => ?_) | refine Fr_mup (fun _ hi => PR_n (by decide) hi) (fun _ => ?_) | refine Fr_mset (fun _ hi => PR_n (by decide) hi) (fun _ => ?_) | refine Fr_bnd (fun _ => ?_) | refine Fr_bd ?_ (fun _ _ => ?_) | apply frd_X9_bookings_B49 | apply frd_X9_of | apply frd_X9_bookings_B69 | assumption | decide | intro _)

theorem frd_X9_bookings_L6_body (a1 : Int32) (a2 : Int32) (a3 : Int32) (a4 : Int32) (kx1 : Int32 → Mem → Ans) (kb : Int32 → Int32 → Mem → Ans) (a5 : Int32) (a6 : Int32) (hx1 : ∀ (b5 : Int32) (M0 : Mem), Fr PR M0 (kx1 b5 M0)) (hb : ∀ (b5 : Int32) (b6 : Int32) (M0 : Mem), Fr PR M0 (kb b5 b6 M0)) (M : Mem) : Fr PR M (d_X9_bookings_L6_body a1 a2 a3 a4 kx1 kb a5 a6 M) := by
  unfold d_X9_bookings_L6_body
  with_reducible repeat' (first | exact Fr_some | exact hx1 _ _ | exact hb _ _ _ | refine Fr_ite ?_ ?_ | refine Fr_chk ?_ | refine Fr_nar ?_ | refine Fr_stk (fun _ _ => ?_) | refine Fr_mup (fun _ hi => PR_n (by decide) hi) (fun _ => ?_) | refine Fr_mset (fun _ hi => PR_n (by decide) hi) (fun _ => ?_) | refine Fr_bnd (fun _ => ?_) | refine Fr_bd ?_ (fun _ _ => ?_) | apply frd_X9_bookings_B34 | apply frd_X9_of | apply frd_X9_bookings_B69 | assumption | decide | intro _)

theorem frd_X9_bookings_L6 (a1 : Int32) (a2 : Int32) (a3 : Int32) (a4 : Int32) (kx1 : Int32 → Mem → Ans) (hx1 : ∀ (b5 : Int32) (M0 : Mem), Fr PR M0 (kx1 b5 M0)) : ∀ (n : Nat) (a5 : Int32) (a6 : Int32) (M : Mem), Fr PR M (d_X9_bookings_L6 a1 a2 a3 a4 kx1 n a5 a6 M) := by
  intro n
  induction n with
  | zero => intro a5 a6 M; exact Fr_none
  | succ n ih => intro a5 a6 M; exact frd_X9_bookings_L6_body a1 a2 a3 a4 kx1 _ a5 a6 hx1 ih M

theorem frd_X9_bookings (p1 : Int32) (p2 : Int32) (p3 : Int32) (p4 : Int32) (M : Mem) : Fr PR M (d_X9_bookings p1 p2 p3 p4 M) := by
  unfold d_X9_bookings
  with_reducible repeat' (first | exact Fr_some | refine Fr_ite ?_ ?_ | refine Fr_chk ?_ | refine Fr_nar ?_ | refine Fr_stk (fun _ _ => ?_) | refine Fr_mup (fun _ hi => PR_n (by decide) hi) (fun _ => ?_) | refine Fr_mset (fun _ hi => PR_n (by decide) hi) (fun _ => ?_) | refine Fr_bnd (fun _ => ?_) | refine Fr_bd ?_ (fun _ _ => ?_) | apply frd_X9_bookings_L6 | assumption | decide | intro _)

theorem frd_X9_recipe (p1 : Int32) (p2 : Int32) (M : Mem) : Fr PR M (d_X9_recipe p1 p2 M) := by
  unfold d_X9_recipe
  with_reducible repeat' (first | exact Fr_some | refine Fr_ite ?_ ?_ | refine Fr_chk ?_ | refine Fr_nar ?_ | refine Fr_stk (fun _ _ => ?_) | refine Fr_mup (fun _ hi => PR_n (by decide) hi) (fun _ => ?_) | refine Fr_mset (fun _ hi => PR_n (by decide) hi) (fun _ => ?_) | refine Fr_bnd (fun _ => ?_) | refine Fr_bd ?_ (fun _ _ => ?_) | apply frd_X9_noRecipe | apply frd_X9_in | apply frd_X9_bookings | apply frd_X9_ofRecipe | assumption | decide | intro _)

theorem frd_X9_robot_L85_body (a1 : Int32) (kx1 : Int32 → Mem → Ans) (kb : Int32 → Mem → Ans) (a3 : Int32) (hx1 : ∀ (b3 : Int32) (M0 : Mem), Fr PR M0 (kx1 b3 M0)) (hb : ∀ (b3 : Int32) (M0 : Mem), Fr PR M0 (kb b3 M0)) (M : Mem) : Fr PR M (d_X9_robot_L85_body a1 kx1 kb a3 M) := by
  unfold d_X9_robot_L85_body
  with_reducible repeat' (first | exact Fr_some | exact hx1 _ _ | exact hb _ _ | refine Fr_ite ?_ ?_ | refine Fr_chk ?_ | refine Fr_nar ?_ | refine Fr_stk (fun _ _ => ?_) | refine Fr_mup (fun _ hi => PR_n (by decide) hi) (fun _ => ?_) | refine Fr_mset (fun _ hi => PR_n (by decide) hi) (fun _ => ?_) | refine Fr_bnd (fun _ => ?_) | refine Fr_bd ?_ (fun _ _ => ?_) | apply frd_X9_keeper | assumption | decide | intro _)

theorem frd_X9_robot_L85 (a1 : Int32) (kx1 : Int32 → Mem → Ans) (hx1 : ∀ (b3 : Int32) (M0 : Mem), Fr PR M0 (kx1 b3 M0)) : ∀ (n : Nat) (a3 : Int32) (M : Mem), Fr PR M (d_X9_robot_L85 a1 kx1 n a3 M) := by
  intro n
  induction n with
  | zero => intro a3 M; exact Fr_none
  | succ n ih => intro a3 M; exact frd_X9_robot_L85_body a1 kx1 _ a3 hx1 ih M

theorem frd_X9_robot (p1 : Int32) (p2 : Int32) (M : Mem) : Fr PR M (d_X9_robot p1 p2 M) := by
  unfold d_X9_robot
  with_reducible repeat' (first | exact Fr_some | refine Fr_ite ?_ ?_ | refine Fr_chk ?_ | refine Fr_nar ?_ | refine Fr_stk (fun _ _ => ?_) | refine Fr_mup (fun _ hi => PR_n (by decide) hi) (fun _ => ?_) | refine Fr_mset (fun _ hi => PR_n (by decide) hi) (fun _ => ?_) | refine Fr_bnd (fun _ => ?_) | refine Fr_bd ?_ (fun _ _ => ?_) | apply frd_X9_noRobot | apply frd_X9_bookings | apply frd_X9_keeper | apply frd_X9_robot_L85 | assumption | decide | intro _)

theorem frd_X9_booking (p1 : Int32) (p2 : Int32) (M : Mem) : Fr PR M (d_X9_booking p1 p2 M) := by
  unfold d_X9_booking
  with_reducible repeat' (first | exact Fr_some | refine Fr_ite ?_ ?_ | refine Fr_chk ?_ | refine Fr_nar ?_ | refine Fr_stk (fun _ _ => ?_) | refine Fr_mup (fun _ hi => PR_n (by decide) hi) (fun _ => ?_) | refine Fr_mset (fun _ hi => PR_n (by decide) hi) (fun _ => ?_) | refine Fr_bnd (fun _ => ?_) | refine Fr_bd ?_ (fun _ _ => ?_) | apply frd_X9_noBooking | apply frd_X9_in | apply frd_X9_forecast | apply frd_X9_isOpen | apply frd_X9_of | assumption | decide | intro _)

theorem frd_X9_wishTold (p1 : Int32) (p2 : Int32) (M : Mem) : Fr PR M (d_X9_wishTold p1 p2 M) := by
  unfold d_X9_wishTold
  with_reducible repeat' (first | exact Fr_some | refine Fr_ite ?_ ?_ | refine Fr_chk ?_ | refine Fr_nar ?_ | refine Fr_stk (fun _ _ => ?_) | refine Fr_mup (fun _ hi => PR_n (by decide) hi) (fun _ => ?_) | refine Fr_mset (fun _ hi => PR_n (by decide) hi) (fun _ => ?_) | refine Fr_bnd (fun _ => ?_) | refine Fr_bd ?_ (fun _ _ => ?_) | apply frd_X9_in | apply frd_X9_bases | apply frd_X9_ofWish | apply frd_X9_first | assumption | decide | intro _)

theorem frd_X9_pressureIn_L20_body (a1 : Int32) (kx1 : Mem → Ans) (kb : Int32 → Mem → Ans) (a2 : Int32) (hx1 : ∀ (M0 : Mem), Fr PR M0 (kx1 M0)) (hb : ∀ (b2 : Int32) (M0 : Mem), Fr PR M0 (kb b2 M0)) (M : Mem) : Fr PR M (d_X9_pressureIn_L20_body a1 kx1 kb a2 M) := by
  unfold d_X9_pressureIn_L20_body
  with_reducible repeat' (first | exact Fr_some | exact hx1 _ | exact hb _ _ | refine Fr_ite ?_ ?_ | refine Fr_chk ?_ | refine Fr_nar ?_ | refine Fr_stk (fun _ _ => ?_) | refine Fr_mup (fun _ hi => PR_n (by decide) hi) (fun _ => ?_) | refine Fr_mset (fun _ hi => PR_n (by decide) hi) (fun _ => ?_) | refine Fr_bnd (fun _ => ?_) | refine Fr_bd ?_ (fun _ _ => ?_) | apply frd_X9_foresees | assumption | decide | intro _)

theorem frd_X9_pressureIn_L20 (a1 : Int32) (kx1 : Mem → Ans) (hx1 : ∀ (M0 : Mem), Fr PR M0 (kx1 M0)) : ∀ (n : Nat) (a2 : Int32) (M : Mem), Fr PR M (d_X9_pressureIn_L20 a1 kx1 n a2 M) := by
  intro n
  induction n with
  | zero => intro a2 M; exact Fr_none
  | succ n ih => intro a2 M; exact frd_X9_pressureIn_L20_body a1 kx1 _ a2 hx1 ih M

theorem frd_X9_pressureIn (p1 : Int32) (M : Mem) : Fr PR M (d_X9_pressureIn p1 M) := by
  unfold d_X9_pressureIn
  with_reducible repeat' (first | exact Fr_some | refine Fr_ite ?_ ?_ | refine Fr_chk ?_ | refine Fr_nar ?_ | refine Fr_stk (fun _ _ => ?_) | refine Fr_mup (fun _ hi => PR_n (by decide) hi) (fun _ => ?_) | refine Fr_mset (fun _ hi => PR_n (by decide) hi) (fun _ => ?_) | refine Fr_bnd (fun _ => ?_) | refine Fr_bd ?_ (fun _ _ => ?_) | apply frd_X9_in | apply frd_X9_begins | apply frd_X9_pressureIn_L20 | assumption | decide | intro _)

theorem frd_X9_lowestIn_B56 (kx1 : Int32 → Mem → Ans) (kb : Int32 → Int32 → Mem → Ans) (a1 : Int32) (a3 : Int32) (s0 : Int32) (hx1 : ∀ (b2 : Int32) (M0 : Mem), Fr PR M0 (kx1 b2 M0)) (hb : ∀ (b2 : Int32) (b3 : Int32) (M0 : Mem), Fr PR M0 (kb b2 b3 M0)) (M : Mem) : Fr PR M (d_X9_lowestIn_B56 kx1 kb a1 a3 s0 M) := by
  unfold d_X9_lowestIn_B56
  with_reducible repeat' (first | exact Fr_some | exact hx1 _ _ | exact hb _ _ _ | refine Fr_ite ?_ ?_ | refine Fr_chk ?_ | refine Fr_nar ?_ | refine Fr_stk (fun _ _ => ?_) | refine Fr_mup (fun _ hi => PR_n (by decide) hi) (fun _ => ?_) | refine Fr_mset (fun _ hi => PR_n (by decide) hi) (fun _ => ?_) | refine Fr_bnd (fun _ => ?_) | refine Fr_bd ?_ (fun _ _ => ?_) | assumption | decide | intro _)

theorem frd_X9_lowestIn_L23_body (a1 : Int32) (kx1 : Int32 → Mem → Ans) (kb : Int32 → Int32 → Mem → Ans) (a2 : Int32) (a3 : Int32) (hx1 : ∀ (b2 : Int32) (M0 : Mem), Fr PR M0 (kx1 b2 M0)) (hb : ∀ (b2 : Int32) (b3 : Int32) (M0 : Mem), Fr PR M0 (kb b2 b3 M0)) (M : Mem) : Fr PR M (d_X9_lowestIn_L23_body a1 kx1 kb a2 a3 M) := by
  unfold d_X9_lowestIn_L23_body
  with_reducible repeat' (first | exact Fr_some | exact hx1 _ _ | exact hb _ _ _ | refine Fr_ite ?_ ?_ | refine Fr_chk ?_ | refine Fr_nar ?_ | refine Fr_stk (fun _ _ => ?_) | refine Fr_mup (fun _ hi => PR_n (by decide) hi) (fun _ => ?_) | refine Fr_mset (fun _ hi => PR_n (by decide) hi) (fun _ => ?_) | refine Fr_bnd (fun _ => ?_) | refine Fr_bd ?_ (fun _ _ => ?_) | apply frd_X9_foresees | apply frd_X9_lowestIn_B56 | assumption | decide | intro _)

theorem frd_X9_lowestIn_L23 (a1 : Int32) (kx1 : Int32 → Mem → Ans) (hx1 : ∀ (b2 : Int32) (M0 : Mem), Fr PR M0 (kx1 b2 M0)) : ∀ (n : Nat) (a2 : Int32) (a3 : Int32) (M : Mem), Fr PR M (d_X9_lowestIn_L23 a1 kx1 n a2 a3 M) := by
  intro n
  induction n with
  | zero => intro a2 a3 M; exact Fr_none
  | succ n ih => intro a2 a3 M; exact frd_X9_lowestIn_L23_body a1 kx1 _ a2 a3 hx1 ih M

theorem frd_X9_lowestIn (p1 : Int32) (M : Mem) : Fr PR M (d_X9_lowestIn p1 M) := by
  unfold d_X9_lowestIn
  with_reducible repeat' (first | exact Fr_some | refine Fr_ite ?_ ?_ | refine Fr_chk ?_ | refine Fr_nar ?_ | refine Fr_stk (fun _ _ => ?_) | refine Fr_mup (fun _ hi => PR_n (by decide) hi) (fun _ => ?_) | refine Fr_mset (fun _ hi => PR_n (by decide) hi) (fun _ => ?_) | refine Fr_bnd (fun _ => ?_) | refine Fr_bd ?_ (fun _ _ => ?_) | apply frd_X9_in | apply frd_X9_begins | apply frd_X9_lowestIn_L23 | assumption | decide | intro _)

theorem frd_X9_why (p1 : Int32) (p2 : Int32) (p3 : Int32) (p4 : Int32) (M : Mem) : Fr PR M (d_X9_why p1 p2 p3 p4 M) := by
  unfold d_X9_why
  with_reducible repeat' (first | exact Fr_some | refine Fr_ite ?_ ?_ | refine Fr_chk ?_ | refine Fr_nar ?_ | refine Fr_stk (fun _ _ => ?_) | refine Fr_mup (fun _ hi => PR_n (by decide) hi) (fun _ => ?_) | refine Fr_mset (fun _ hi => PR_n (by decide) hi) (fun _ => ?_) | refine Fr_bnd (fun _ => ?_) | refine Fr_bd ?_ (fun _ _ => ?_) | apply frd_X9_noRobot | apply frd_X9_noRecipe | apply frd_X9_isStart | apply frd_X9_in | apply frd_X9_bases | apply frd_X9_reason | apply frd_X9_last | apply frd_X9_keeper | assumption | decide | intro _)

theorem frd_X9_earliest (p1 : Int32) (p2 : Int32) (p3 : Int32) (M : Mem) : Fr PR M (d_X9_earliest p1 p2 p3 M) := by
  unfold d_X9_earliest
  with_reducible repeat' (first | exact Fr_some | refine Fr_ite ?_ ?_ | refine Fr_chk ?_ | refine Fr_nar ?_ | refine Fr_stk (fun _ _ => ?_) | refine Fr_mup (fun _ hi => PR_n (by decide) hi) (fun _ => ?_) | refine Fr_mset (fun _ hi => PR_n (by decide) hi) (fun _ => ?_) | refine Fr_bnd (fun _ => ?_) | refine Fr_bd ?_ (fun _ _ => ?_) | apply frd_X9_noRobot | apply frd_X9_noRecipe | apply frd_X9_isStart | apply frd_X9_bases | apply frd_X9_first | assumption | decide | intro _)

theorem frd_X9_count_B130 (a1 : Int32) (M : Mem) : Fr PR M (d_X9_count_B130 a1 M) := by
  unfold d_X9_count_B130
  with_reducible repeat' (first | exact Fr_some | refine Fr_ite ?_ ?_ | refine Fr_chk ?_ | refine Fr_nar ?_ | refine Fr_stk (fun _ _ => ?_) | refine Fr_mup (fun _ hi => PR_n (by decide) hi) (fun _ => ?_) | refine Fr_mset (fun _ hi => PR_n (by decide) hi) (fun _ => ?_) | refine Fr_bnd (fun _ => ?_) | refine Fr_bd ?_ (fun _ _ => ?_) | apply frd_X9_bookings | assumption | decide | intro _)

theorem frd_X9_count (p1 : Int32) (M : Mem) : Fr PR M (d_X9_count p1 M) := by
  unfold d_X9_count
  with_reducible repeat' (first | exact Fr_some | refine Fr_ite ?_ ?_ | refine Fr_chk ?_ | refine Fr_nar ?_ | refine Fr_stk (fun _ _ => ?_) | refine Fr_mup (fun _ hi => PR_n (by decide) hi) (fun _ => ?_) | refine Fr_mset (fun _ hi => PR_n (by decide) hi) (fun _ => ?_) | refine Fr_bnd (fun _ => ?_) | refine Fr_bd ?_ (fun _ _ => ?_) | apply frd_X9_count_B130 | apply frd_X9_doomed | assumption | decide | intro _)

