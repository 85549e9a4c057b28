/-! the history, on both sides -/
def pushH (l : List St) (s : St) : List St := (if l.length = 4 then l.drop 1 else l) ++ [s]
def CHist (M : Mem) (l : List St) : Prop := M 134 1 = I l.length ∧ l.length ≤ 4 ∧ ∃ p : Nat → Nat, (∀ j, j < 4 → M 135 j = I (p j) ∧ 3 ≤ p j ∧ p j < 7) ∧ (∀ i j, i < 4 → j < 4 → p i = p j → i = j) ∧ ∀ j s, l[j]? = some s → cv (p j) M s
def RHist (M : Mem) (l : List St) : Prop := M 143 2 = I l.length ∧ l.length ≤ 4 ∧ ∀ j s, l[j]? = some s → rv (fun i => M 145 (366 * j + i)) s
theorem I_nat (n : Nat) : I ((n : Int) + 1) = I n + 1 := by rw [← I_add]; rfl
theorem I_nat' (n : Nat) : (I n + 1 : Int32) = I ((n + 1 : Nat) : Int) := (I_nat n).symm
theorem rv_congr {f g : Nat → Int32} {s : St} (hl : s.2.length ≤ 8) (h : rv f s) (e : ∀ i, i < 366 → g i = f i) : rv g s := by
  obtain ⟨h1, h2, h3⟩ := h
  refine ⟨fun i hi h6 => (e i (by omega)).trans (h1 i hi h6), (e 6 (by omega)).trans h2, fun p w hp => ?_⟩
  have hpl := (List.getElem?_eq_some_iff.mp hp).1
  obtain ⟨q1, q2, q3⟩ := h3 p w hp
  exact ⟨(e _ (by omega)).trans q1, (e _ (by omega)).trans q2, (e _ (by omega)).trans q3⟩
theorem mset_self (M : Mem) (i : Nat) (f : Nat → Int32) (h : ∀ j, f j = M i j) : mset M i f = M := by
  funext a b
  rw [mset_a]
  split
  · rename_i e; rw [e, h]
  · rfl
/-- the reference's copy of now into the history's segment K -/
theorem rec_L51 {kx : Mem → Ans} {K : Nat} (hK : K < 4) : ∀ (d n x : Nat) (M : Mem), x + d = 366 → d < n → M 143 2 = I K → d_X9_record_L51 kx n (I x) M = kx (mset M 145 (fun j => if 366 * K + x ≤ j ∧ j < 366 * K + 366 then M 144 (j - 366 * K) else M 145 j))
  | 0, n + 1, x, M, hx, hn, h2 => by
    rw [sd_X9_record_L51]
    unfold d_X9_record_L51_body
    rw [if_pos (by rw [show (366 : Int32) = I 366 from rfl, I_le (by unfold sm; omega) (by unfold sm; omega)]; omega)]
    rw [mset_self]
    intro j
    rw [if_neg (by omega)]
  | d + 1, n + 1, x, M, hx, hn, h2 => by
    rw [sd_X9_record_L51]
    unfold d_X9_record_L51_body
    rw [if_neg (by rw [show (366 : Int32) = I 366 from rfl, I_le (by unfold sm; omega) (by unfold sm; omega)]; omega)]
    have e : ((366 : Int32) * (M 143 2)) + I x = I ((366 * K + x : Nat) : Int) := by
      rw [h2, show (366 : Int32) = I 366 from rfl, I_mul, I_add]
      congr 1
    rw [e]
    unfold chk
    rw [if_neg (by rw [show (0 : Int32) = I 0 from rfl, I_lt (by unfold sm; omega) (by unfold sm; omega), I_clamp (by unfold sm; omega)]; omega)]
    rw [if_neg (by rw [show (0 : Int32) = I 0 from rfl, I_lt (by unfold sm; omega) (by unfold sm; omega), I_clamp (by unfold sm; omega)]; omega)]
    unfold bnd
    dsimp only
    rw [I_nat', rec_L51 hK d n (x + 1) _ (by omega) (by omega) (by rw [mup_n (by decide)]; exact h2), I_clamp (by unfold sm; omega), I_clamp (by unfold sm; omega)]
    congr 1
    funext a b
    simp only [mset_a, mup_a]
    by_cases ha : a = 145
    · simp only [ha, if_true, show ((144 : Nat) = 145) = False from by decide, if_false, Int.toNat_natCast]
      by_cases hb : b = 366 * K + x
      · subst hb
        rw [if_neg (by omega), if_pos rfl, if_pos (by omega)]
        congr 1
        omega
      · by_cases hb2 : 366 * K + (x + 1) ≤ b ∧ b < 366 * K + 366
        · rw [if_pos hb2, if_pos (by omega)]
        · rw [if_neg hb2, if_neg hb, if_neg (by omega)]
    · simp only [ha, if_false]
  | _, 0, _, _, _, hn, _ => absurd hn (by omega)
theorem rec_L10 {kx : Mem → Ans} : ∀ (d n x : Nat) (M : Mem), x + d = 1098 → d < n → d_X9_record_L10 kx n (I x) M = kx (mset M 145 (fun j => if x ≤ j ∧ j < 1098 then M 145 (j + 366) else M 145 j))
  | 0, n + 1, x, M, hx, hn => by
    rw [sd_X9_record_L10]
    unfold d_X9_record_L10_body
    rw [if_pos (by rw [show (1098 : Int32) = I 1098 from rfl, I_le (by unfold sm; omega) (by unfold sm; omega)]; omega)]
    rw [mset_self]
    intro j
    rw [if_neg (by omega)]
  | d + 1, n + 1, x, M, hx, hn => by
    rw [sd_X9_record_L10]
    unfold d_X9_record_L10_body
    rw [if_neg (by rw [show (1098 : Int32) = I 1098 from rfl, I_le (by unfold sm; omega) (by unfold sm; omega)]; omega)]
    have e : I x + (366 : Int32) = I ((x + 366 : Nat) : Int) := by
      rw [show (366 : Int32) = I 366 from rfl, I_add]
      congr 1
    rw [e]
    unfold chk
    rw [if_neg (by rw [show (0 : Int32) = I 0 from rfl, I_lt (by unfold sm; omega) (by unfold sm; omega), I_clamp (by unfold sm; omega)]; omega)]
    rw [if_neg (by rw [show (0 : Int32) = I 0 from rfl, I_lt (by unfold sm; omega) (by unfold sm; omega), I_clamp (by unfold sm; omega)]; omega)]
    unfold bnd
    dsimp only
    rw [I_nat', rec_L10 d n (x + 1) _ (by omega) (by omega), I_clamp (by unfold sm; omega), I_clamp (by unfold sm; omega)]
    congr 1
    funext a b
    simp only [mset_a, mup_a]
    by_cases ha : a = 145
    · simp only [ha, if_true, Int.toNat_natCast]
      by_cases hb : b = x
      · subst hb
        rw [if_neg (by omega), if_pos rfl, if_pos (by omega)]
      · by_cases hb2 : x + 1 ≤ b ∧ b < 1098
        · rw [if_pos hb2, if_neg (by omega), if_pos (by omega)]
        · rw [if_neg hb2, if_neg hb, if_neg (by omega)]
    · simp only [ha, if_false]
  | _, 0, _, _, _, hn => absurd hn (by omega)
theorem recB_spec {M : Mem} {l : List St} {s : St} (hR : RHist M l) (h4 : l.length < 4) (hl : ∀ q ∈ l, q.2.length ≤ 8) (hs : s.2.length ≤ 8) (hv : rv (M 144) s) : wp (d_X9_record_B49 M) (fun r M1 => r = 0 ∧ RHist M1 (l ++ [s]) ∧ (∀ i, i ≠ 143 → i ≠ 145 → M1 i = M i) ∧ ∀ j, j ≠ 2 → M1 143 j = M 143 j) := by
  obtain ⟨h1, -, h3⟩ := hR
  unfold d_X9_record_B49
  rw [show (0 : Int32) = I ((0 : Nat) : Int) from rfl, rec_L51 h4 366 fuelN 0 M (by omega) (by unfold fuelN; omega) h1, wq_bnd, wq_some]
  refine ⟨rfl, ⟨?_, ?_, ?_⟩, fun i hi h5 => by rw [mup_n hi, mset_n h5], fun j hj => by rw [mup_a, if_pos rfl, if_neg hj, mset_n (by decide)]⟩
  · rw [mup_a, if_pos rfl, if_pos rfl, mset_n (by decide), h1, I_nat', List.length_append]
    rfl
  · rw [List.length_append]
    simp only [List.length_cons, List.length_nil]
    omega
  · intro j q hq
    by_cases hj : j < l.length
    · rw [List.getElem?_append_left hj] at hq
      refine rv_congr (hl q (List.mem_of_getElem? hq)) (h3 j q hq) (fun i hi => ?_)
      rw [mup_n (by decide), mset_a, if_pos rfl, if_neg (by omega)]
    · rw [List.getElem?_append_right (by omega)] at hq
      have hj0 : j = l.length := by
        have := (List.getElem?_eq_some_iff.mp hq).1
        simp only [List.length_cons, List.length_nil] at this
        omega
      subst hj0
      rw [Nat.sub_self] at hq
      cases hq
      refine rv_congr hs hv (fun i hi => ?_)
      rw [mup_n (by decide), mset_a, if_pos rfl, if_pos (by omega)]
      congr 1
      omega
theorem record_spec {M : Mem} {l : List St} {s : St} (hR : RHist M l) (hl : ∀ q ∈ l, q.2.length ≤ 8) (hs : s.2.length ≤ 8) (hv : rv (M 144) s) : wp (d_X9_record M) (fun r M1 => r = 0 ∧ RHist M1 (pushH l s) ∧ (∀ i, i ≠ 143 → i ≠ 145 → M1 i = M i) ∧ ∀ j, j ≠ 2 → M1 143 j = M 143 j) := by
  obtain ⟨h1, h2, h3⟩ := id hR
  unfold d_X9_record pushH
  by_cases h4 : l.length = 4
  · rw [h1, h4, if_pos rfl, if_pos (show I ((4 : Nat) : Int) = (4 : Int32) from rfl)]
    rw [show (0 : Int32) = I ((0 : Nat) : Int) from rfl, rec_L10 1098 fuelN 0 M (by omega) (by unfold fuelN; omega), wq_bnd]
    refine wp_mono (recB_spec (l := l.drop 1) (s := s) ⟨?_, ?_, ?_⟩ ?_ ?_ hs ?_) (fun r M1 q => ⟨q.1, q.2.1, fun i hi h5 => ?_, fun j hj => ?_⟩)
    · rw [mup_a, if_pos rfl, if_pos rfl, mset_n (by decide), h1, h4, List.length_drop, h4]
      rfl
    · rw [List.length_drop]; omega
    · intro j q hq
      rw [List.getElem?_drop] at hq
      have hj := (List.getElem?_eq_some_iff.mp hq).1
      refine rv_congr (hl q (List.mem_of_getElem? hq)) (h3 _ q hq) (fun i hi => ?_)
      rw [mup_n (by decide), mset_a, if_pos rfl, if_pos (by omega)]
      congr 1
      omega
    · rw [List.length_drop]; omega
    · intro q hq
      exact hl q (List.mem_of_mem_drop hq)
    · rw [mup_n (by decide), mset_n (by decide)]
      exact hv
    · rw [q.2.2.1 i hi h5, mup_n hi, mset_n h5]
    · rw [q.2.2.2 j hj, mup_a, if_pos rfl, if_neg hj, mset_n (by decide)]
  · rw [h1, if_neg (by rw [show (4 : Int32) = I 4 from rfl, I_eq (by unfold sm; omega) (by unfold sm; omega)]; omega), if_neg h4]
    exact recB_spec hR (by omega) hl hs hv
