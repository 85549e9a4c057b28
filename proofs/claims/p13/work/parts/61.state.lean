/-! the abstract state: cells as the reference lays them (places under 342), wishes as a list -/
abbrev Wi : Type := Int × Int × Int
abbrev St : Type := (Nat → Int) × List Wi
/-- the class's state object k stands for s -/
def cv (k : Nat) (M : Mem) (s : St) : Prop :=
  (M (sI k 0) 0 = I (s.1 0) ∧ M (sI k 0) 1 = I (s.1 1) ∧ M (sI k 0) 2 = I (s.1 2) ∧ M (sI k 0) 3 = I (s.1 3) ∧ M (sI k 0) 4 = I (s.1 7) ∧ M (sI k 0) 5 = I (s.1 8) ∧ M (sI k 0) 6 = I (s.1 9)) ∧
  (M (sI k 1) 0 = I (s.1 4) ∧ M (sI k 6) 0 = I (s.1 5) ∧ M (sI k 12) 0 = I s.2.length) ∧
  (∀ r, r < 8 → M (sI k 2) r = I (s.1 (10 + 4 * r)) ∧ M (sI k 3) r = I (s.1 (11 + 4 * r)) ∧ M (sI k 4) r = I (s.1 (12 + 4 * r)) ∧ M (sI k 5) r = I (s.1 (13 + 4 * r))) ∧
  (∀ b, b < 60 → M (sI k 7) b = I (s.1 (42 + 5 * b)) ∧ M (sI k 8) b = I (s.1 (43 + 5 * b)) ∧ M (sI k 9) b = I (s.1 (44 + 5 * b)) ∧ M (sI k 10) b = I (s.1 (45 + 5 * b)) ∧ M (sI k 11) b = I (s.1 (46 + 5 * b))) ∧
  (∀ p w, s.2[p]? = some w → M (sI k 13) p = I w.1 ∧ M (sI k 14) p = I w.2.1 ∧ M (sI k 15) p = I w.2.2)
/-- a row of 366 cells of the reference stands for s -/
def rv (f : Nat → Int32) (s : St) : Prop :=
  (∀ i, i < 342 → i ≠ 6 → f i = I (s.1 i)) ∧ f 6 = I s.2.length ∧ ∀ p w, s.2[p]? = some w → f (342 + 3 * p) = I w.1 ∧ f (343 + 3 * p) = I w.2.1 ∧ f (344 + 3 * p) = I w.2.2
def rcOk (S : Nat → Int) (r : Nat) : Prop := (0 ≤ S (10 + 4 * r) ∧ S (10 + 4 * r) ≤ 3000) ∧ (1 ≤ S (11 + 4 * r) ∧ S (11 + 4 * r) ≤ 500) ∧ (1 ≤ S (12 + 4 * r) ∧ S (12 + 4 * r) ≤ 20) ∧ (0 ≤ S (13 + 4 * r) ∧ S (13 + 4 * r) ≤ 9)
def bkOk (S : Nat → Int) (b : Nat) : Prop := (0 ≤ S (42 + 5 * b) ∧ S (42 + 5 * b) ≤ 5) ∧ (0 ≤ S (43 + 5 * b) ∧ S (43 + 5 * b) < S 4) ∧ (1 ≤ S (44 + 5 * b) ∧ S (44 + 5 * b) ≤ S 0 + 60) ∧ (0 ≤ S (45 + 5 * b) ∧ S (45 + 5 * b) ≤ 4) ∧ (S (45 + 5 * b) = 0 → S 0 < S (44 + 5 * b)) ∧ (S (45 + 5 * b) = 1 → S (44 + 5 * b) ≤ S 0 ∧ S 0 < S (44 + 5 * b) + S (12 + 4 * (S (43 + 5 * b)).toNat) - 1)
def wiOk (S : Nat → Int) (w : Wi) : Prop := (0 ≤ w.1 ∧ w.1 ≤ 5) ∧ (0 ≤ w.2.1 ∧ w.2.1 < S 4) ∧ (1 ≤ w.2.2 ∧ w.2.2 ≤ S 0 + 60)
def SInv (s : St) : Prop :=
  (0 ≤ s.1 0 ∧ s.1 0 ≤ 9000) ∧ (0 ≤ s.1 1 ∧ s.1 1 ≤ s.1 2) ∧ (100 ≤ s.1 2 ∧ s.1 2 ≤ 3000) ∧ (0 ≤ s.1 3 ∧ s.1 3 ≤ 300) ∧ (0 ≤ s.1 4 ∧ s.1 4 ≤ 8) ∧ (0 ≤ s.1 5 ∧ s.1 5 ≤ 60) ∧ s.2.length ≤ 8 ∧ (∀ r : Nat, (r : Int) < s.1 4 → rcOk s.1 r) ∧ (∀ b : Nat, (b : Int) < s.1 5 → bkOk s.1 b) ∧ ∀ w ∈ s.2, wiOk s.1 w
theorem mset_n {M : Mem} {i a : Nat} {f : Nat → Int32} (h : a ≠ i) : mset M i f a = M a := by unfold mset; rw [if_neg h]
theorem mup_n {M : Mem} {i j a : Nat} {v : Int32} (h : a ≠ i) : mup M i j v a = M a := mset_n h
theorem mup_s {M : Mem} {i j : Nat} {v : Int32} : mup M i j v i = upd (M i) j v := by unfold mup mset; rw [if_pos rfl]
theorem mset_s {M : Mem} {i : Nat} {f : Nat → Int32} : mset M i f i = f := by unfold mset; rw [if_pos rfl]
theorem sI_in (k a b : Nat) : (sI k a = sI k b) = (a = b) := propext ⟨fun h => by unfold sI at h; omega, fun h => by rw [h]⟩
theorem cpy8 (f g : Nat → Int32) (n r : Nat) (h : r < n) : va_cpy f g 0 0 n r = f r := by
  unfold va_cpy
  rw [if_pos ⟨Nat.zero_le _, by omega⟩]
  congr 1
  omega
/-- only the cells of one state matter -/
theorem cv_congr {k : Nat} {M M1 : Mem} {s : St} (h : cv k M s) (e : ∀ j, j < 16 → M1 (sI k j) = M (sI k j)) : cv k M1 s := by
  unfold cv
  simp only [e 0 (by decide), e 1 (by decide), e 2 (by decide), e 3 (by decide), e 4 (by decide), e 5 (by decide), e 6 (by decide), e 7 (by decide), e 8 (by decide), e 9 (by decide), e 10 (by decide), e 11 (by decide), e 12 (by decide), e 13 (by decide), e 14 (by decide), e 15 (by decide)]
  exact h
