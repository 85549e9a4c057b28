/-! what denotations answer: rules -/
def wp (o : Ans) (Q : Int32 → Mem → Prop) : Prop := ∃ r M', o = some (r, M') ∧ Q r M'
theorem wp_some {r : Int32} {M : Mem} {Q : Int32 → Mem → Prop} (h : Q r M) : wp (some (r, M)) Q := ⟨r, M, rfl, h⟩
theorem wp_bd {o : Ans} {k : Int32 → Mem → Ans} {Q : Int32 → Mem → Prop} (h : wp o (fun r M => wp (k r M) Q)) : wp (bd o k) Q := by
  obtain ⟨r, M, rfl, h⟩ := h
  exact h
theorem wp_bnd {α : Type} {a : α} {k : α → Ans} {Q : Int32 → Mem → Prop} (h : wp (k a) Q) : wp (bnd a k) Q := h
theorem wp_chk {i : Int32} {n : Nat} {o : Ans} {Q : Int32 → Mem → Prop} (h1 : ¬ (i < 0 ∨ n ≤ i.toNatClampNeg)) (h : wp o Q) : wp (chk i n o) Q := by
  unfold chk
  rw [if_neg h1]
  exact h
theorem wp_ite {c : Prop} [Decidable c] {a b : Ans} {Q : Int32 → Mem → Prop} (h1 : c → wp a Q) (h2 : ¬ c → wp b Q) : wp (if c then a else b) Q := by
  by_cases h : c
  · rw [if_pos h]; exact h1 h
  · rw [if_neg h]; exact h2 h
theorem wp_t {c : Prop} [Decidable c] {a b : Ans} {Q : Int32 → Mem → Prop} (h : c) (h1 : wp a Q) : wp (if c then a else b) Q := by rw [if_pos h]; exact h1
theorem wp_f {c : Prop} [Decidable c] {a b : Ans} {Q : Int32 → Mem → Prop} (h : ¬ c) (h1 : wp b Q) : wp (if c then a else b) Q := by rw [if_neg h]; exact h1
theorem wp_mono {o : Ans} {Q Q' : Int32 → Mem → Prop} (h : wp o Q) (hq : ∀ r M, Q r M → Q' r M) : wp o Q' := by
  obtain ⟨r, M, e, h⟩ := h
  exact ⟨r, M, e, hq r M h⟩
theorem wp_eq {o : Ans} {r : Int32} {M : Mem} {Q : Int32 → Mem → Prop} (e : o = some (r, M)) (h : Q r M) : wp o Q := ⟨r, M, e, h⟩
theorem wp_nar {ty : FieldType} {v : Int32} {o : Ans} {Q : Int32 → Mem → Prop} (hn : narrow ty (.int v) = .int v) (h : wp o Q) : wp (nar ty v o) Q := by
  unfold nar
  rw [if_pos hn]
  exact h
theorem wp_stk {v : Int32} {q : Nat} {k : Nat → Ans} {Q : Int32 → Mem → Prop} (e : v.toNatClampNeg = q) (h7 : q < 7) (h : wp (k q) Q) : wp (stk v k) Q := by
  unfold stk
  rw [e, if_pos h7]
  exact h
theorem wp_fr {P : Nat → Prop} {M : Mem} {o : Ans} {Q : Int32 → Mem → Prop} (hf : Fr P M o) (h : wp o Q) : wp o (fun r M' => Q r M' ∧ ∀ i, P i → M' i = M i) := by
  obtain ⟨r, M', e, h⟩ := h
  exact ⟨r, M', e, h, hf.1 r M' e⟩
/-! numbers -/
abbrev I (a : Int) : Int32 := Int32.ofInt a
def sm (a : Int) : Prop := -2147483648 ≤ a ∧ a < 2147483648
theorem I_toInt (x : Int32) : I x.toInt = x := Int32.ofInt_toInt x
theorem toInt_I {a : Int} (h : sm a) : (I a).toInt = a := Int32.toInt_ofInt_of_le h.1 h.2
theorem sm_toInt (x : Int32) : sm x.toInt := ⟨Int32.le_toInt x, Int32.toInt_lt x⟩
theorem I_lt {a b : Int} (ha : sm a) (hb : sm b) : (I a < I b) = (a < b) := by rw [Int32.lt_iff_toInt_lt, toInt_I ha, toInt_I hb]
theorem I_le {a b : Int} (ha : sm a) (hb : sm b) : (I a ≤ I b) = (a ≤ b) := by rw [Int32.le_iff_toInt_le, toInt_I ha, toInt_I hb]
theorem I_eq {a b : Int} (ha : sm a) (hb : sm b) : (I a = I b) = (a = b) := by
  refine propext ⟨fun h => ?_, fun h => by rw [h]⟩
  have := congrArg Int32.toInt h
  rwa [toInt_I ha, toInt_I hb] at this
theorem I_add (a b : Int) : I a + I b = I (a + b) := (Int32.ofInt_add a b).symm
theorem I_sub (a b : Int) : I a - I b = I (a - b) := (Int32.ofInt_sub a b).symm
theorem I_mul (a b : Int) : I a * I b = I (a * b) := (Int32.ofInt_mul a b).symm
theorem I_clamp {a : Int} (h : sm a) : (I a).toNatClampNeg = a.toNat := by
  show (I a).toInt.toNat = a.toNat
  rw [toInt_I h]
theorem lt_toInt {x y : Int32} : x < y ↔ x.toInt < y.toInt := Int32.lt_iff_toInt_lt
theorem le_toInt {x y : Int32} : x ≤ y ↔ x.toInt ≤ y.toInt := Int32.le_iff_toInt_le
theorem eq_toInt {x y : Int32} : x = y ↔ x.toInt = y.toInt := Int32.toInt_inj.symm
