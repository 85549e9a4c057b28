/-! the abstract state: cells as the reference lays them (places under 342), wishes as a list -/
abbrev Wi : Type := Int × Int × Int
abbrev St : Type := (Nat → Int) × List Wi
/-- the class's state object k stands for s -/
def cv (k : Nat) (M : Mem) (s : St) : Prop :=
  (M (sI k 0) 0 = I (s.1 0) ∧ M (sI k 0) 1 = I (s.1 1) ∧ M (sI k 0) 2 = I (s.1 2) ∧ M (sI k 0) 3 = I (s.1 3) ∧ M (sI k 0) 4 = I (s.1 7) ∧ M (sI k 0) 5 = I (s.1 8) ∧ M (sI k 0) 6 = I (s.1 9)) ∧
  (M (sI k 1) 0 = I (s.1 4) ∧ M (sI k 6) 0 = I (s.1 5) ∧ M (sI k 12) 0 = I s.2.length) ∧
  (∀ r, r < 8 → M (sI k 2) r = I (s.1 (10 + 4 * r)) ∧ M (sI k 3) r = I (s.1 (11 + 4 * r)) ∧ M (sI k 4) r = I (s.1 (12 + 4 * r)) ∧ M (sI k 5) r = I (s.1 (13 + 4 * r))) ∧
  (∀ b, b < 60 → M (sI k 7) b = I (s.1 (42 + 5 * b)) ∧ M (sI k 8) b = I (s.1 (43 + 5 * b)) ∧ M (sI k 9) b = I (s.1 (44 + 5 * b)) ∧ M (sI k 10) b = I (s.1 (45 + 5 * b)) ∧ M (sI k 11) b = I (s.1 (46 + 5 * b))) ∧
  (∀ p w, s.2[p]? = some w → M (sI k 13) p = I w.1 ∧ M (sI k 14) p = I w.2.1 ∧ M (sI k 15) p = I w.2.2)
/-- a row of 366 cells of the reference stands for s -/
def rv (f : Nat → Int32) (s : St) : Prop :=
  (∀ i, i < 342 → i ≠ 6 → f i = I (s.1 i)) ∧ f 6 = I s.2.length ∧ ∀ p w, s.2[p]? = some w → f (342 + 3 * p) = I w.1 ∧ f (343 + 3 * p) = I w.2.1 ∧ f (344 + 3 * p) = I w.2.2
def rcOk (S : Nat → Int) (r : Nat) : Prop := (0 ≤ S (10 + 4 * r) ∧ S (10 + 4 * r) ≤ 3000) ∧ (1 ≤ S (11 + 4 * r) ∧ S (11 + 4 * r) ≤ 500) ∧ (1 ≤ S (12 + 4 * r) ∧ S (12 + 4 * r) ≤ 20) ∧ (0 ≤ S (13 + 4 * r) ∧ S (13 + 4 * r) ≤ 9)
def bkOk (S : Nat → Int) (b : Nat) : Prop := (0 ≤ S (42 + 5 * b) ∧ S (42 + 5 * b) ≤ 5) ∧ (0 ≤ S (43 + 5 * b) ∧ S (43 + 5 * b) < S 4) ∧ (1 ≤ S (44 + 5 * b) ∧ S (44 + 5 * b) ≤ S 0 + 60) ∧ (0 ≤ S (45 + 5 * b) ∧ S (45 + 5 * b) ≤ 4) ∧ (S (45 + 5 * b) = 0 → S 0 < S (44 + 5 * b)) ∧ (S (45 + 5 * b) = 1 → S (44 + 5 * b) ≤ S 0 ∧ S 0 < S (44 + 5 * b) + S (12 + 4 * (S (43 + 5 * b)).toNat) - 1)
def wiOk (S : Nat → Int) (w : Wi) : Prop := (0 ≤ w.1 ∧ w.1 ≤ 5) ∧ (0 ≤ w.2.1 ∧ w.2.1 < S 4) ∧ (1 ≤ w.2.2 ∧ w.2.2 ≤ S 0 + 60)
def SInv (s : St) : Prop :=
  (0 ≤ s.1 0 ∧ s.1 0 ≤ 9000) ∧ (0 ≤ s.1 1 ∧ s.1 1 ≤ s.1 2) ∧ (100 ≤ s.1 2 ∧ s.1 2 ≤ 3000) ∧ (0 ≤ s.1 3 ∧ s.1 3 ≤ 300) ∧ (0 ≤ s.1 4 ∧ s.1 4 ≤ 8) ∧ (0 ≤ s.1 5 ∧ s.1 5 ≤ 60) ∧ s.2.length ≤ 8 ∧ (∀ r : Nat, (r : Int) < s.1 4 → rcOk s.1 r) ∧ (∀ b : Nat, (b : Int) < s.1 5 → bkOk s.1 b) ∧ ∀ w ∈ s.2, wiOk s.1 w
theorem mset_n {M : Mem} {i a : Nat} {f : Nat → Int32} (h : a ≠ i) : mset M i f a = M a := by unfold mset; rw [if_neg h]
theorem mup_n {M : Mem} {i j a : Nat} {v : Int32} (h : a ≠ i) : mup M i j v a = M a := mset_n h
theorem mup_s {M : Mem} {i j : Nat} {v : Int32} : mup M i j v i = upd (M i) j v := by unfold mup mset; rw [if_pos rfl]
theorem mset_s {M : Mem} {i : Nat} {f : Nat → Int32} : mset M i f i = f := by unfold mset; rw [if_pos rfl]
theorem sI_in (k a b : Nat) : (sI k a = sI k b) = (a = b) := propext ⟨fun h => by unfold sI at h; omega, fun h => by rw [h]⟩
theorem cpy8 (f g : Nat → Int32) (n r : Nat) (h : r < n) : va_cpy f g 0 0 n r = f r := by
  unfold va_cpy
  rw [if_pos ⟨Nat.zero_le _, by omega⟩]
  congr 1
  omega
/-- only the cells of one state matter -/
theorem cv_congr {k : Nat} {M M1 : Mem} {s : St} (h : cv k M s) (e : ∀ j, j < 16 → M1 (sI k j) = M (sI k j)) : cv k M1 s := by
  unfold cv
  simp only [e 0 (by decide), e 1 (by decide), e 2 (by decide), e 3 (by decide), e 4 (by decide), e 5 (by decide), e 6 (by decide), e 7 (by decide), e 8 (by decide), e 9 (by decide), e 10 (by decide), e 11 (by decide), e 12 (by decide), e 13 (by decide), e 14 (by decide), e 15 (by decide)]
  exact h
theorem upd_s {f : Nat → Int32} {k : Nat} {v : Int32} : upd f k v k = v := by unfold upd; rw [if_pos rfl]
theorem upd_n {f : Nat → Int32} {k j : Nat} {v : Int32} (h : j ≠ k) : upd f k v j = f j := by unfold upd; rw [if_neg h]
theorem copy4 {k q : Nat} (hkq : k ≠ q) {M : Mem} : wp (d_X4_copyFrom k q M) (fun r M1 => r = 0 ∧ M1 (sI k 1) 0 = M (sI q 1) 0 ∧ (∀ x, x < 8 → M1 (sI k 2) x = M (sI q 2) x ∧ M1 (sI k 3) x = M (sI q 3) x ∧ M1 (sI k 4) x = M (sI q 4) x ∧ M1 (sI k 5) x = M (sI q 5) x) ∧ ∀ i, (∀ j, 1 ≤ j → j < 6 → i ≠ sI k j) → M1 i = M i) := by
  simp only [d_X4_copyFrom, wq_some, wq_bnd, true_and]
  refine ⟨?_, fun x hx => ⟨?_, ?_, ?_, ?_⟩, fun i hi => ?_⟩
  · repeat (first | exact rfl | refine (congrFun (mup_n (by unfold sI; omega)) _).trans ?_ | refine (congrFun (mset_n (by unfold sI; omega)) _).trans ?_ | refine (congrFun mup_s _).trans ?_ | refine upd_s.trans ?_ | refine (upd_n (by decide)).trans ?_ | refine (congrFun mset_s _).trans ?_ | refine (cpy8 _ _ _ _ (by assumption)).trans ?_)
  · repeat (first | exact rfl | refine (congrFun (mup_n (by unfold sI; omega)) _).trans ?_ | refine (congrFun (mset_n (by unfold sI; omega)) _).trans ?_ | refine (congrFun mup_s _).trans ?_ | refine upd_s.trans ?_ | refine (upd_n (by decide)).trans ?_ | refine (congrFun mset_s _).trans ?_ | refine (cpy8 _ _ _ _ (by assumption)).trans ?_)
  · repeat (first | exact rfl | refine (congrFun (mup_n (by unfold sI; omega)) _).trans ?_ | refine (congrFun (mset_n (by unfold sI; omega)) _).trans ?_ | refine (congrFun mup_s _).trans ?_ | refine upd_s.trans ?_ | refine (upd_n (by decide)).trans ?_ | refine (congrFun mset_s _).trans ?_ | refine (cpy8 _ _ _ _ (by assumption)).trans ?_)
  · repeat (first | exact rfl | refine (congrFun (mup_n (by unfold sI; omega)) _).trans ?_ | refine (congrFun (mset_n (by unfold sI; omega)) _).trans ?_ | refine (congrFun mup_s _).trans ?_ | refine upd_s.trans ?_ | refine (upd_n (by decide)).trans ?_ | refine (congrFun mset_s _).trans ?_ | refine (cpy8 _ _ _ _ (by assumption)).trans ?_)
  · repeat (first | exact rfl | refine (congrFun (mup_n (by unfold sI; omega)) _).trans ?_ | refine (congrFun (mset_n (by unfold sI; omega)) _).trans ?_ | refine (congrFun mup_s _).trans ?_ | refine upd_s.trans ?_ | refine (upd_n (by decide)).trans ?_ | refine (congrFun mset_s _).trans ?_ | refine (cpy8 _ _ _ _ (by assumption)).trans ?_)
  · rw [mset_n (hi 5 (by decide) (by decide)), mset_n (hi 4 (by decide) (by decide)), mset_n (hi 3 (by decide) (by decide)), mset_n (hi 2 (by decide) (by decide)), mup_n (hi 1 (by decide) (by decide))]
theorem copy0 {k q : Nat} (hkq : k ≠ q) {M : Mem} : wp (d_X0_copyFrom k q M) (fun r M1 => r = 0 ∧ M1 (sI k 6) 0 = M (sI q 6) 0 ∧ (∀ x, x < 60 → M1 (sI k 7) x = M (sI q 7) x ∧ M1 (sI k 8) x = M (sI q 8) x ∧ M1 (sI k 9) x = M (sI q 9) x ∧ M1 (sI k 10) x = M (sI q 10) x ∧ M1 (sI k 11) x = M (sI q 11) x) ∧ ∀ i, (∀ j, 6 ≤ j → j < 12 → i ≠ sI k j) → M1 i = M i) := by
  simp only [d_X0_copyFrom, wq_some, wq_bnd, true_and]
  refine ⟨?_, fun x hx => ⟨?_, ?_, ?_, ?_, ?_⟩, fun i hi => ?_⟩
  · repeat (first | exact rfl | refine (congrFun (mup_n (by unfold sI; omega)) _).trans ?_ | refine (congrFun (mset_n (by unfold sI; omega)) _).trans ?_ | refine (congrFun mup_s _).trans ?_ | refine upd_s.trans ?_ | refine (upd_n (by decide)).trans ?_ | refine (congrFun mset_s _).trans ?_ | refine (cpy8 _ _ _ _ (by assumption)).trans ?_)
  · repeat (first | exact rfl | refine (congrFun (mup_n (by unfold sI; omega)) _).trans ?_ | refine (congrFun (mset_n (by unfold sI; omega)) _).trans ?_ | refine (congrFun mup_s _).trans ?_ | refine upd_s.trans ?_ | refine (upd_n (by decide)).trans ?_ | refine (congrFun mset_s _).trans ?_ | refine (cpy8 _ _ _ _ (by assumption)).trans ?_)
  · repeat (first | exact rfl | refine (congrFun (mup_n (by unfold sI; omega)) _).trans ?_ | refine (congrFun (mset_n (by unfold sI; omega)) _).trans ?_ | refine (congrFun mup_s _).trans ?_ | refine upd_s.trans ?_ | refine (upd_n (by decide)).trans ?_ | refine (congrFun mset_s _).trans ?_ | refine (cpy8 _ _ _ _ (by assumption)).trans ?_)
  · repeat (first | exact rfl | refine (congrFun (mup_n (by unfold sI; omega)) _).trans ?_ | refine (congrFun (mset_n (by unfold sI; omega)) _).trans ?_ | refine (congrFun mup_s _).trans ?_ | refine upd_s.trans ?_ | refine (upd_n (by decide)).trans ?_ | refine (congrFun mset_s _).trans ?_ | refine (cpy8 _ _ _ _ (by assumption)).trans ?_)
  · repeat (first | exact rfl | refine (congrFun (mup_n (by unfold sI; omega)) _).trans ?_ | refine (congrFun (mset_n (by unfold sI; omega)) _).trans ?_ | refine (congrFun mup_s _).trans ?_ | refine upd_s.trans ?_ | refine (upd_n (by decide)).trans ?_ | refine (congrFun mset_s _).trans ?_ | refine (cpy8 _ _ _ _ (by assumption)).trans ?_)
  · repeat (first | exact rfl | refine (congrFun (mup_n (by unfold sI; omega)) _).trans ?_ | refine (congrFun (mset_n (by unfold sI; omega)) _).trans ?_ | refine (congrFun mup_s _).trans ?_ | refine upd_s.trans ?_ | refine (upd_n (by decide)).trans ?_ | refine (congrFun mset_s _).trans ?_ | refine (cpy8 _ _ _ _ (by assumption)).trans ?_)
  · rw [mset_n (hi 11 (by decide) (by decide)), mset_n (hi 10 (by decide) (by decide)), mset_n (hi 9 (by decide) (by decide)), mset_n (hi 8 (by decide) (by decide)), mset_n (hi 7 (by decide) (by decide)), mup_n (hi 6 (by decide) (by decide))]
theorem copy7 {k q : Nat} (hkq : k ≠ q) {M : Mem} : wp (d_X7_copyFrom k q M) (fun r M1 => r = 0 ∧ M1 (sI k 12) 0 = M (sI q 12) 0 ∧ (∀ x, x < 8 → M1 (sI k 13) x = M (sI q 13) x ∧ M1 (sI k 14) x = M (sI q 14) x ∧ M1 (sI k 15) x = M (sI q 15) x) ∧ ∀ i, (∀ j, 12 ≤ j → j < 16 → i ≠ sI k j) → M1 i = M i) := by
  simp only [d_X7_copyFrom, wq_some, wq_bnd, true_and]
  refine ⟨?_, fun x hx => ⟨?_, ?_, ?_⟩, fun i hi => ?_⟩
  · repeat (first | exact rfl | refine (congrFun (mup_n (by unfold sI; omega)) _).trans ?_ | refine (congrFun (mset_n (by unfold sI; omega)) _).trans ?_ | refine (congrFun mup_s _).trans ?_ | refine upd_s.trans ?_ | refine (upd_n (by decide)).trans ?_ | refine (congrFun mset_s _).trans ?_ | refine (cpy8 _ _ _ _ (by assumption)).trans ?_)
  · repeat (first | exact rfl | refine (congrFun (mup_n (by unfold sI; omega)) _).trans ?_ | refine (congrFun (mset_n (by unfold sI; omega)) _).trans ?_ | refine (congrFun mup_s _).trans ?_ | refine upd_s.trans ?_ | refine (upd_n (by decide)).trans ?_ | refine (congrFun mset_s _).trans ?_ | refine (cpy8 _ _ _ _ (by assumption)).trans ?_)
  · repeat (first | exact rfl | refine (congrFun (mup_n (by unfold sI; omega)) _).trans ?_ | refine (congrFun (mset_n (by unfold sI; omega)) _).trans ?_ | refine (congrFun mup_s _).trans ?_ | refine upd_s.trans ?_ | refine (upd_n (by decide)).trans ?_ | refine (congrFun mset_s _).trans ?_ | refine (cpy8 _ _ _ _ (by assumption)).trans ?_)
  · repeat (first | exact rfl | refine (congrFun (mup_n (by unfold sI; omega)) _).trans ?_ | refine (congrFun (mset_n (by unfold sI; omega)) _).trans ?_ | refine (congrFun mup_s _).trans ?_ | refine upd_s.trans ?_ | refine (upd_n (by decide)).trans ?_ | refine (congrFun mset_s _).trans ?_ | refine (cpy8 _ _ _ _ (by assumption)).trans ?_)
  · rw [mset_n (hi 15 (by decide) (by decide)), mset_n (hi 14 (by decide) (by decide)), mset_n (hi 13 (by decide) (by decide)), mup_n (hi 12 (by decide) (by decide))]
theorem sI_nn {k q a b : Nat} (hkq : k ≠ q) (ha : a < 16) (hb : b < 16) : sI q a ≠ sI k b := fun h => hkq (by unfold sI at h; omega)
theorem sI_nm {k a b : Nat} (h : a ≠ b) : sI k a ≠ sI k b := fun e => h (by unfold sI at e; omega)
/-- copying a state -/
theorem copy_cv {k q : Nat} (hkq : k ≠ q) {M : Mem} {s : St} (hl : s.2.length ≤ 8) (hc : cv q M s) : wp (d_X5_copyFrom k q M) (fun r M1 => r = 0 ∧ cv k M1 s ∧ ∀ i, (i < 16 * k ∨ 16 * k + 16 ≤ i) → M1 i = M i) := by
  obtain ⟨⟨a0, a1, a2, a3, a4, a5, a6⟩, ⟨b0, b1, b2⟩, hr, hb, hw⟩ := hc
  simp only [d_X5_copyFrom, wq_bd, wq_some, wq_bnd]
  have hM7 : ∀ M7 : Mem, (∀ i, i ≠ sI k 0 → M7 i = M i) → M7 (sI k 0) 0 = M (sI q 0) 0 → M7 (sI k 0) 1 = M (sI q 0) 1 → M7 (sI k 0) 2 = M (sI q 0) 2 → M7 (sI k 0) 3 = M (sI q 0) 3 → M7 (sI k 0) 4 = M (sI q 0) 4 → M7 (sI k 0) 5 = M (sI q 0) 5 → M7 (sI k 0) 6 = M (sI q 0) 6 → wp (d_X4_copyFrom k q M7) (fun r N => wp (d_X0_copyFrom k q N) fun r N => wp (d_X7_copyFrom k q N) fun r M1 => True ∧ cv k M1 s ∧ ∀ i, (i < 16 * k ∨ 16 * k + 16 ≤ i) → M1 i = M i) := by
    intro M7 e f0 f1 f2 f3 f4 f5 f6
    refine wp_mono (copy4 hkq) (fun _ M8 h8 => ?_)
    obtain ⟨-, c1, c2, c3⟩ := h8
    refine wp_mono (copy0 hkq) (fun _ M9 h9 => ?_)
    obtain ⟨-, u1, u2, u3⟩ := h9
    refine wp_mono (copy7 hkq) (fun _ M10 h10 => ?_)
    obtain ⟨-, t1, t2, t3⟩ := h10
    have g7 : ∀ j, j < 16 → M7 (sI q j) = M (sI q j) := fun j hj => e _ (sI_nn hkq hj (by decide))
    have g8 : ∀ j, j < 16 → M8 (sI q j) = M (sI q j) := fun j hj => (c3 _ (fun i _ h => sI_nn hkq hj (by omega))).trans (g7 j hj)
    have g9 : ∀ j, j < 16 → M9 (sI q j) = M (sI q j) := fun j hj => (u3 _ (fun i _ h => sI_nn hkq hj (by omega))).trans (g8 j hj)
    have k0 : M10 (sI k 0) = M7 (sI k 0) := (t3 _ (fun j h1 h2 => sI_nm (by omega))).trans ((u3 _ (fun j h1 h2 => sI_nm (by omega))).trans (c3 _ (fun j h1 h2 => sI_nm (by omega))))
    have kA : ∀ j, j < 6 → M10 (sI k j) = M8 (sI k j) := fun j hj => (t3 _ (fun j h1 h2 => sI_nm (by omega))).trans (u3 _ (fun j h1 h2 => sI_nm (by omega)))
    have kB : ∀ j, j < 12 → M10 (sI k j) = M9 (sI k j) := fun j hj => t3 _ (fun j h1 h2 => sI_nm (by omega))
    refine ⟨trivial, ⟨⟨?_, ?_, ?_, ?_, ?_, ?_, ?_⟩, ⟨?_, ?_, ?_⟩, fun r h8 => ⟨?_, ?_, ?_, ?_⟩, fun b h60 => ⟨?_, ?_, ?_, ?_, ?_⟩, fun p w hp => ?_⟩, ?_⟩
    · rw [k0, f0, a0]
    · rw [k0, f1, a1]
    · rw [k0, f2, a2]
    · rw [k0, f3, a3]
    · rw [k0, f4, a4]
    · rw [k0, f5, a5]
    · rw [k0, f6, a6]
    · rw [kA 1 (by decide), c1, g7 1 (by decide), b0]
    · rw [kB 6 (by decide), u1, g8 6 (by decide), b1]
    · rw [t1, g9 12 (by decide), b2]
    · rw [kA 2 (by decide), (c2 r h8).1, g7 2 (by decide), (hr r h8).1]
    · rw [kA 3 (by decide), (c2 r h8).2.1, g7 3 (by decide), (hr r h8).2.1]
    · rw [kA 4 (by decide), (c2 r h8).2.2.1, g7 4 (by decide), (hr r h8).2.2.1]
    · rw [kA 5 (by decide), (c2 r h8).2.2.2, g7 5 (by decide), (hr r h8).2.2.2]
    · rw [kB 7 (by decide), (u2 b h60).1, g8 7 (by decide), (hb b h60).1]
    · rw [kB 8 (by decide), (u2 b h60).2.1, g8 8 (by decide), (hb b h60).2.1]
    · rw [kB 9 (by decide), (u2 b h60).2.2.1, g8 9 (by decide), (hb b h60).2.2.1]
    · rw [kB 10 (by decide), (u2 b h60).2.2.2.1, g8 10 (by decide), (hb b h60).2.2.2.1]
    · rw [kB 11 (by decide), (u2 b h60).2.2.2.2, g8 11 (by decide), (hb b h60).2.2.2.2]
    · have hp8 : p < 8 := by
        have := (List.getElem?_eq_some_iff.mp hp).1
        omega
      obtain ⟨w1, w2, w3⟩ := hw p w hp
      refine ⟨?_, ?_, ?_⟩
      · rw [(t2 p hp8).1, g9 13 (by decide), w1]
      · rw [(t2 p hp8).2.1, g9 14 (by decide), w2]
      · rw [(t2 p hp8).2.2, g9 15 (by decide), w3]
    · intro i hi
      rw [t3 i (fun j h1 h2 => by unfold sI; omega), u3 i (fun j h1 h2 => by unfold sI; omega), c3 i (fun j h1 h2 => by unfold sI; omega), e i (by unfold sI; omega)]
  simp only [true_and] at hM7 ⊢
  refine hM7 _ ?_ ?_ ?_ ?_ ?_ ?_ ?_ ?_
  · exact fun i hi => by rw [mup_n hi, mup_n hi, mup_n hi, mup_n hi, mup_n hi, mup_n hi, mup_n hi]
  · repeat (first | exact rfl | refine (congrFun (mup_n (by unfold sI; omega)) _).trans ?_ | refine (congrFun (mset_n (by unfold sI; omega)) _).trans ?_ | refine (congrFun mup_s _).trans ?_ | refine upd_s.trans ?_ | refine (upd_n (by decide)).trans ?_ | refine (congrFun mset_s _).trans ?_ | refine (cpy8 _ _ _ _ (by assumption)).trans ?_)
  · repeat (first | exact rfl | refine (congrFun (mup_n (by unfold sI; omega)) _).trans ?_ | refine (congrFun (mset_n (by unfold sI; omega)) _).trans ?_ | refine (congrFun mup_s _).trans ?_ | refine upd_s.trans ?_ | refine (upd_n (by decide)).trans ?_ | refine (congrFun mset_s _).trans ?_ | refine (cpy8 _ _ _ _ (by assumption)).trans ?_)
  · repeat (first | exact rfl | refine (congrFun (mup_n (by unfold sI; omega)) _).trans ?_ | refine (congrFun (mset_n (by unfold sI; omega)) _).trans ?_ | refine (congrFun mup_s _).trans ?_ | refine upd_s.trans ?_ | refine (upd_n (by decide)).trans ?_ | refine (congrFun mset_s _).trans ?_ | refine (cpy8 _ _ _ _ (by assumption)).trans ?_)
  · repeat (first | exact rfl | refine (congrFun (mup_n (by unfold sI; omega)) _).trans ?_ | refine (congrFun (mset_n (by unfold sI; omega)) _).trans ?_ | refine (congrFun mup_s _).trans ?_ | refine upd_s.trans ?_ | refine (upd_n (by decide)).trans ?_ | refine (congrFun mset_s _).trans ?_ | refine (cpy8 _ _ _ _ (by assumption)).trans ?_)
  · repeat (first | exact rfl | refine (congrFun (mup_n (by unfold sI; omega)) _).trans ?_ | refine (congrFun (mset_n (by unfold sI; omega)) _).trans ?_ | refine (congrFun mup_s _).trans ?_ | refine upd_s.trans ?_ | refine (upd_n (by decide)).trans ?_ | refine (congrFun mset_s _).trans ?_ | refine (cpy8 _ _ _ _ (by assumption)).trans ?_)
  · repeat (first | exact rfl | refine (congrFun (mup_n (by unfold sI; omega)) _).trans ?_ | refine (congrFun (mset_n (by unfold sI; omega)) _).trans ?_ | refine (congrFun mup_s _).trans ?_ | refine upd_s.trans ?_ | refine (upd_n (by decide)).trans ?_ | refine (congrFun mset_s _).trans ?_ | refine (cpy8 _ _ _ _ (by assumption)).trans ?_)
  · repeat (first | exact rfl | refine (congrFun (mup_n (by unfold sI; omega)) _).trans ?_ | refine (congrFun (mset_n (by unfold sI; omega)) _).trans ?_ | refine (congrFun mup_s _).trans ?_ | refine upd_s.trans ?_ | refine (upd_n (by decide)).trans ?_ | refine (congrFun mset_s _).trans ?_ | refine (cpy8 _ _ _ _ (by assumption)).trans ?_)
