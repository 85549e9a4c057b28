/-! the text, as it is read -/
abbrev En : Type := Int × Int × Int
def ccT (T : List Int32) (i : Nat) : Int := match T[i]? with | some c => c.toInt | none => 0
theorem cc_b (T : List Int32) (i : Nat) : -2147483648 ≤ ccT T i ∧ ccT T i < 2147483648 := by
  unfold ccT
  cases T[i]? with
  | none => dsimp only; omega
  | some c => exact sm_toInt c
theorem cc_l {T : List Int32} {i : Nat} (h : ccT T i ≠ 0) : i < T.length := by
  by_cases c : i < T.length
  · exact c
  · unfold ccT at h
    rw [List.getElem?_eq_none (by omega)] at h
    exact absurd rfl h
abbrev dgT (T : List Int32) (i : Nat) : Prop := 48 ≤ ccT T i ∧ ccT T i ≤ 57
def numR (T : List Int32) : Nat → Int → Nat → Int × Nat
  | 0, v, i => (v, i)
  | k + 1, v, i => if dgT T i then numR T k (10 * v + (ccT T i - 48)) (i + 1) else (v, i)
def stS (T : List Int32) (i : Nat) : Int × Nat := if ccT T i - 48 = 0 then (0, i + 1) else numR T 3 (ccT T i - 48) (i + 1)
/-- where the reading of an entry stands behind it, and what it read -/
def entS (T : List Int32) (i : Nat) : Nat × Option En :=
  if ¬ dgT T i then (i, none) else if ¬ ccT T (i + 1) = 58 then (i + 1, none) else if ¬ dgT T (i + 2) then (i + 2, none)
  else if ¬ ccT T (i + 3) = 64 then (i + 3, none) else if ¬ dgT T (i + 4) then (i + 4, none)
  else ((stS T (i + 4)).2, some (ccT T i - 48, ccT T (i + 2) - 48, (stS T (i + 4)).1))
theorem numR_b {T : List Int32} : ∀ (k : Nat) (v : Int) (i : Nat), k ≤ 3 → i ≤ T.length → 0 ≤ v → ((k = 3 → v ≤ 9) ∧ (k = 2 → v ≤ 99) ∧ (k = 1 → v ≤ 999) ∧ (k = 0 → v ≤ 9999)) → i ≤ (numR T k v i).2 ∧ (numR T k v i).2 ≤ T.length ∧ 0 ≤ (numR T k v i).1 ∧ (numR T k v i).1 ≤ 9999
  | 0, v, i, _, hl, hv, hb => ⟨Nat.le_refl _, hl, hv, hb.2.2.2 rfl⟩
  | k + 1, v, i, hk, hl, hv, hb => by
    unfold numR
    by_cases c : dgT T i
    · rw [if_pos c]
      have hi := cc_l (T := T) (i := i) (by omega)
      obtain ⟨c1, c2⟩ := c
      have := numR_b (T := T) k (10 * v + (ccT T i - 48)) (i + 1) (by omega) (by omega) (by omega) (by omega)
      omega
    · rw [if_neg c]
      dsimp only
      omega
theorem stS_b {T : List Int32} {i : Nat} (h : dgT T i) : i < (stS T i).2 ∧ (stS T i).2 ≤ T.length ∧ 0 ≤ (stS T i).1 ∧ (stS T i).1 ≤ 9999 := by
  have hi := cc_l (T := T) (i := i) (by omega)
  obtain ⟨c1, c2⟩ := h
  unfold stS
  split
  · dsimp only; omega
  · have := numR_b (T := T) 3 (ccT T i - 48) (i + 1) (by omega) (by omega) (by omega) (by omega)
    omega
/-- an entry that was read -/
theorem ent_b {T : List Int32} {i : Nat} {e : En} (h : (entS T i).2 = some e) : i + 5 ≤ (entS T i).1 ∧ (entS T i).1 ≤ T.length ∧ (0 ≤ e.1 ∧ e.1 ≤ 9) ∧ (0 ≤ e.2.1 ∧ e.2.1 ≤ 9) ∧ (0 ≤ e.2.2 ∧ e.2.2 ≤ 9999) := by
  unfold entS at h ⊢
  split at h
  · cases h
  · rename_i c1
    rw [if_neg c1]
    split at h
    · cases h
    · rename_i c2
      rw [if_neg c2]
      split at h
      · cases h
      · rename_i c3
        rw [if_neg c3]
        split at h
        · cases h
        · rename_i c4
          rw [if_neg c4]
          split at h
          · cases h
          · rename_i c5
            rw [if_neg c5]
            have c1' : dgT T i := Classical.not_not.mp c1
            have c3' : dgT T (i + 2) := Classical.not_not.mp c3
            have c5' : dgT T (i + 4) := Classical.not_not.mp c5
            have := stS_b c5'
            cases h
            dsimp only
            omega
theorem ent_f {T : List Int32} {i : Nat} (hi : i ≤ T.length) (h : (entS T i).2 = none) : (entS T i).1 ≤ T.length := by
  unfold entS at h ⊢
  split
  · exact hi
  · rename_i c1
    have l1 := cc_l (T := T) (i := i) (by have := Classical.not_not.mp c1; omega)
    split
    · dsimp only; omega
    · rename_i c2
      have l2 := cc_l (T := T) (i := i + 1) (by have := Classical.not_not.mp c2; omega)
      split
      · dsimp only; omega
      · rename_i c3
        have l3 := cc_l (T := T) (i := i + 2) (by have := Classical.not_not.mp c3; omega)
        split
        · dsimp only; omega
        · rename_i c4
          have l4 := cc_l (T := T) (i := i + 3) (by have := Classical.not_not.mp c4; omega)
          split
          · dsimp only; omega
          · rename_i c5
            rw [if_neg c1, if_neg c2, if_neg c3, if_neg c4, if_neg c5] at h
            cases h
/-- the whole text: the place of its fault, or its entries -/
def parS (T : List Int32) : Nat → Nat → Nat × Option (List En)
  | 0, i => (i, none)
  | d + 1, i => match (entS T i).2 with
    | none => ((entS T i).1, none)
    | some e => if (entS T i).1 = T.length then ((entS T i).1, some [e]) else if ccT T (entS T i).1 = 44 then ((parS T d ((entS T i).1 + 1)).1, (parS T d ((entS T i).1 + 1)).2.map (fun es => e :: es)) else ((entS T i).1, none)
/-! the class reads -/
def TX (M : Mem) (T : List Int32) (i : Nat) : Prop := txC M T ∧ M 136 6 = I i ∧ T.length ≤ 60 ∧ i ≤ 60 ∧ ∀ c ∈ T, cOk c
theorem cur_e {M : Mem} {T : List Int32} {i : Nat} (h : TX M T i) : d_X6_current M = some (I (ccT T i), M) := by
  obtain ⟨⟨h1, h2⟩, h3, h4, h5, h6⟩ := h
  unfold d_X6_current
  rw [h1, h3]
  simp only [lit_, neg_I]
  rw [if_neg (by rw [I_lt (by unfold sm; omega) (by unfold sm; omega)]; omega)]
  by_cases c : i < T.length
  · rw [if_neg (by rw [I_le (by unfold sm; omega) (by unfold sm; omega)]; omega), if_neg (by rw [I_le (by unfold sm; omega) (by unfold sm; omega)]; omega), chk_I (by omega) (by omega) (by omega), I_clamp (by unfold sm; omega), Int.toNat_natCast]
    have hget : T[i]? = some T[i] := List.getElem?_eq_getElem c
    rw [h2 i _ hget]
    have : narrow .char (.int T[i]) = .int T[i] := h6 _ (List.getElem_mem c)
    unfold nar
    rw [if_pos this]
    unfold ccT
    rw [hget]
    dsimp only
    rw [I_toInt]
  · rw [if_pos (by rw [I_le (by unfold sm; omega) (by unfold sm; omega)]; omega)]
    unfold ccT
    rw [List.getElem?_eq_none (by omega)]
theorem dig_e {M : Mem} {T : List Int32} {i : Nat} (h : TX M T i) : d_X6_isDigit M = some ((if dgT T i then 1 else 0), M) := by
  have hb := cc_b T i
  unfold d_X6_isDigit
  rw [cur_e h, bd_some]
  simp only [lit_, neg_I]
  by_cases c1 : ccT T i < 48
  · rw [if_pos (by rw [I_lt (by unfold sm; omega) (by unfold sm; omega)]; exact c1), if_neg (by omega)]
  · rw [if_neg (by rw [I_lt (by unfold sm; omega) (by unfold sm; omega)]; exact c1), cur_e h, bd_some]
    by_cases c2 : 57 < ccT T i
    · rw [if_pos (by rw [I_lt (by unfold sm; omega) (by unfold sm; omega)]; exact c2), if_neg (by omega)]
    · rw [if_neg (by rw [I_lt (by unfold sm; omega) (by unfold sm; omega)]; exact c2), if_pos (by omega)]
theorem TX_at {M : Mem} {T : List Int32} {i j : Nat} (h : TX M T i) (hj : j ≤ 60) : TX (mup M 136 6 (I j)) T j := by
  obtain ⟨⟨h1, h2⟩, h3, h4, h5, h6⟩ := h
  exact ⟨⟨by rw [mup_s, upd_n (by decide)]; exact h1, fun k c hk => by rw [mup_n (by decide)]; exact h2 k c hk⟩, by rw [mup_s, upd_s], h4, hj, h6⟩
theorem tdg_e {M : Mem} {T : List Int32} {i : Nat} (h : TX M T i) : d_X6_takeDigit M = some (I (ccT T i - 48), mup M 136 6 (I (i + 1 : Nat))) := by
  unfold d_X6_takeDigit
  rw [cur_e h, bd_some]
  simp only [lit_, neg_I]
  rw [bnd_e, bnd_e, h.2.1, I_add, I_sub, I_succ]
theorem skp_e {M : Mem} {T : List Int32} {i : Nat} (h : TX M T i) {c : Int} (hc : -1000 ≤ c ∧ c ≤ 1000) : d_X6_skip (I c) M = if ccT T i = c then some (1, mup M 136 6 (I (i + 1 : Nat))) else some (0, M) := by
  have hb := cc_b T i
  unfold d_X6_skip
  rw [cur_e h, bd_some]
  by_cases k : ccT T i = c
  · rw [if_pos (by rw [k]), if_pos k, bnd_e, h.2.1, show (1 : Int32) = I 1 from rfl, I_add, I_succ]
  · rw [if_neg (by rw [I_eq (by unfold sm; omega) (by unfold sm; omega)]; exact k), if_neg k]
/-- what the reading may write -/
def txf (M M1 : Mem) : Prop := (∀ i, i ≠ 136 → (i < 138 ∨ 140 < i) → M1 i = M i) ∧ ∀ j, j ≠ 2 → j ≠ 6 → M1 136 j = M 136 j
theorem txf_r (M : Mem) : txf M M := ⟨fun _ _ _ => rfl, fun _ _ _ => rfl⟩
theorem txf_t {M M1 M2 : Mem} (h : txf M M1) (k : txf M1 M2) : txf M M2 := ⟨fun i a b => (k.1 i a b).trans (h.1 i a b), fun j a b => (k.2 j a b).trans (h.2 j a b)⟩
def atf (M M1 : Mem) : Prop := (∀ i, i ≠ 136 → M1 i = M i) ∧ ∀ j, j ≠ 6 → M1 136 j = M 136 j
theorem atf_r (M : Mem) : atf M M := ⟨fun _ _ => rfl, fun _ _ => rfl⟩
theorem atf_t {M M1 M2 : Mem} (h : atf M M1) (k : atf M1 M2) : atf M M2 := ⟨fun i a => (k.1 i a).trans (h.1 i a), fun j a => (k.2 j a).trans (h.2 j a)⟩
theorem atf_u (M : Mem) (v : Int32) : atf M (mup M 136 6 v) := ⟨fun i a => mup_n a, fun j a => by rw [mup_s, upd_n a]⟩
theorem num_L {T : List Int32} {kx : Int32 → Mem → Ans} {Q : Int32 → Mem → Prop} : ∀ (k n : Nat) (v : Int) (i : Nat) (M : Mem), k ≤ 3 → k < n → TX M T i → (∀ M1, TX M1 T (numR T k v i).2 → atf M M1 → wp (kx (I (numR T k v i).1) M1) Q) → wp (d_X6_takeStart_L13 kx n (I v) (I (4 - k : Int)) M) Q
  | 0, n + 1, v, i, M, hk, hn, h, y => by
    rw [sd_X6_takeStart_L13]
    unfold d_X6_takeStart_L13_body
    rw [if_pos (by rw [show (4 : Int32) = I 4 from rfl, I_le (by unfold sm; omega) (by unfold sm; omega)]; omega)]
    exact y M h (atf_r M)
  | k + 1, n + 1, v, i, M, hk, hn, h, y => by
    rw [sd_X6_takeStart_L13]
    unfold d_X6_takeStart_L13_body
    simp only [lit_, neg_I]
    rw [if_neg (by rw [I_le (by unfold sm; omega) (by unfold sm; omega)]; omega)]
    unfold numR at y
    by_cases c : dgT T i
    · refine gd_t (dig_e h) c ?_
      rw [if_pos c] at y
      have hi := cc_l (T := T) (i := i) (by omega)
      have := h.2.2.1
      rw [tdg_e h, bd_some, wq_bnd, wq_bnd, I_mul, I_add, I_add, show (4 - ((k + 1 : Nat) : Int) + 1) = 4 - (k : Int) by omega, show v * 10 + (ccT T i - 48) = 10 * v + (ccT T i - 48) by omega]
      exact num_L k n _ (i + 1) _ (by omega) (by omega) (TX_at h (by omega)) (fun M1 y1 y2 => y M1 y1 (atf_t (atf_u M _) y2))
    · refine gd_f (dig_e h) c ?_
      rw [if_neg c] at y
      exact y M h (atf_r M)
  | _, 0, _, _, _, _, hn, _, _ => absurd hn (by omega)
theorem tst_spec {T : List Int32} {i : Nat} {M : Mem} (h : TX M T i) (hd : dgT T i) : wp (d_X6_takeStart M) (fun r M1 => r = I (stS T i).1 ∧ TX M1 T (stS T i).2 ∧ atf M M1) := by
  have hi := cc_l (T := T) (i := i) (by omega)
  have := h.2.2.1
  unfold d_X6_takeStart
  rw [tdg_e h, bd_some]
  simp only [lit_, neg_I]
  unfold stS
  by_cases c : ccT T i - 48 = 0
  · rw [if_pos c]
    exact wif_t c (wp_some ⟨rfl, TX_at h (by omega), atf_u M _⟩)
  · rw [if_neg c]
    refine wif_f (by omega) (by omega) c ?_
    have := num_L (T := T) (kx := fun v9 M10 => some (v9, M10)) (Q := fun r M1 => r = I (numR T 3 (ccT T i - 48) (i + 1)).1 ∧ TX M1 T (numR T 3 (ccT T i - 48) (i + 1)).2 ∧ atf M M1) 3 fuelN (ccT T i - 48) (i + 1) _ (by omega) (by unfold fuelN; omega) (TX_at h (by omega)) (fun M1 y1 y2 => wp_some ⟨rfl, y1, atf_t (atf_u M _) y2⟩)
    exact this
def enM (M : Mem) (q : Nat) (es : List En) : Prop := ∀ k e, es[k]? = some e → M 138 (q + k) = I e.1 ∧ M 139 (q + k) = I e.2.1 ∧ M 140 (q + k) = I e.2.2
theorem TX_c {M M1 : Mem} {T : List Int32} {i : Nat} (h : TX M T i) (e1 : M1 136 1 = M 136 1) (e6 : M1 136 6 = M 136 6) (e : M1 137 = M 137) : TX M1 T i := by
  obtain ⟨⟨h1, h2⟩, h3, h4, h5, h6⟩ := h
  exact ⟨⟨e1.trans h1, fun k c hk => by rw [e]; exact h2 k c hk⟩, e6.trans h3, h4, h5, h6⟩
/-- an entry of the class: only places at q and the reading's own are written -/
theorem rde_spec {T : List Int32} {i q : Nat} (hq : q < 10) {M : Mem} (h : TX M T i) : wp (d_X6_readEntry (I q) M) (fun r M1 => r = (if (entS T i).2.isSome = true then I 1 else I 0) ∧ TX M1 T (entS T i).1 ∧ (∀ e, (entS T i).2 = some e → M1 138 q = I e.1 ∧ M1 139 q = I e.2.1 ∧ M1 140 q = I e.2.2) ∧ (∀ j, j ≠ q → M1 138 j = M 138 j ∧ M1 139 j = M 139 j ∧ M1 140 j = M 140 j) ∧ (∀ i, i ≠ 136 → (i < 138 ∨ 140 < i) → M1 i = M i) ∧ ∀ j, j ≠ 6 → M1 136 j = M 136 j) := by
  have h60 := h.2.2.1
  unfold d_X6_readEntry
  simp only [lit_, neg_I]
  rw [if_neg (by rw [I_lt (by unfold sm; omega) (by unfold sm; omega)]; omega), if_neg (by rw [I_le (by unfold sm; omega) (by unfold sm; omega)]; omega)]
  by_cases c1 : dgT T i
  · have l1 := cc_l (T := T) (i := i) (by omega)
    refine gd_t (dig_e h) c1 ?_
    rw [tdg_e h, bd_some, wchk_I (by omega) (by omega) (by omega), wq_bnd, I_clamp (by unfold sm; omega), Int.toNat_natCast]
    generalize hM5 : mup (mup M 136 6 (I (i + 1 : Nat))) 138 q (I (ccT T i - 48)) = M5
    have t5 : TX M5 T (i + 1) := TX_c (TX_at h (by omega)) (by rw [← hM5, mup_n (by decide)]) (by rw [← hM5, mup_n (by decide)]) (by rw [← hM5, mup_n (by decide)])
    have a5 : M5 138 q = I (ccT T i - 48) := by rw [← hM5, mup_s, upd_s]
    have b5 : ∀ j, j ≠ q → M5 138 j = M 138 j := fun j hj => by rw [← hM5, mup_s, upd_n hj, mup_n (by decide)]
    have f5 : ∀ i, i ≠ 136 → i ≠ 138 → M5 i = M i := fun i i0 i1 => by rw [← hM5, mup_n i1, mup_n i0]
    have g5 : ∀ j, j ≠ 6 → M5 136 j = M 136 j := fun j hj => by rw [← hM5, mup_n (by decide), mup_s, upd_n hj]
    rw [skp_e t5 (by omega)]
    by_cases c2 : ccT T (i + 1) = 58
    · rw [if_pos c2, bd_some, if_neg (by decide)]
      have l2 := cc_l (T := T) (i := i + 1) (by omega)
      have t6 := TX_at t5 (j := i + 1 + 1) (by omega)
      by_cases c3 : dgT T (i + 2)
      · have l3 := cc_l (T := T) (i := i + 2) (by omega)
        refine gd_t (dig_e t6) c3 ?_
        rw [tdg_e t6, bd_some, wchk_I (by omega) (by omega) (by omega), wq_bnd]
        generalize hM12 : mup (mup (mup M5 136 6 (I (i + 1 + 1 : Nat))) 136 6 (I (i + 1 + 1 + 1 : Nat))) 139 q (I (ccT T (i + 1 + 1) - 48)) = M12
        have t12 : TX M12 T (i + 3) := TX_c (TX_at t6 (j := i + 3) (by omega)) (by rw [← hM12, mup_n (by decide)]) (by rw [← hM12, mup_n (by decide)]) (by rw [← hM12, mup_n (by decide)])
        have a12 : M12 139 q = I (ccT T (i + 2) - 48) := by rw [← hM12, mup_s, upd_s]
        have b12 : ∀ j, j ≠ q → M12 139 j = M 139 j := fun j hj => by rw [← hM12, mup_s, upd_n hj, mup_n (by decide), mup_n (by decide), f5 139 (by decide) (by decide)]
        have f12 : ∀ i, i ≠ 136 → i ≠ 139 → M12 i = M5 i := fun i i0 i1 => by rw [← hM12, mup_n i1, mup_n i0, mup_n i0]
        have g12 : ∀ j, j ≠ 6 → M12 136 j = M 136 j := fun j hj => by rw [← hM12, mup_n (by decide), mup_s, upd_n hj, mup_s, upd_n hj, g5 j hj]
        rw [skp_e t12 (by omega)]
        by_cases c4 : ccT T (i + 3) = 64
        · rw [if_pos c4, bd_some, if_neg (by decide)]
          have l4 := cc_l (T := T) (i := i + 3) (by omega)
          have t13 := TX_at t12 (j := i + 3 + 1) (by omega)
          by_cases c5 : dgT T (i + 4)
          · have eE : entS T i = ((stS T (i + 4)).2, some (ccT T i - 48, ccT T (i + 2) - 48, (stS T (i + 4)).1)) := by unfold entS; rw [if_neg (fun hh => hh c1), if_neg (fun hh => hh c2), if_neg (fun hh => hh c3), if_neg (fun hh => hh c4), if_neg (fun hh => hh c5)]
            rw [eE]
            refine gd_t (dig_e t13) c5 ?_
            rw [wq_bd]
            refine wp_mono (tst_spec t13 c5) (fun r M17 z => ?_)
            obtain ⟨z1, z2, z3⟩ := z
            have e17 : ∀ i, i ≠ 136 → M17 i = M12 i := fun i hi => by rw [z3.1 i hi, mup_n hi]
            rw [z1, wchk_I (by omega) (by omega) (by omega), wq_bnd, wq_some]
            refine ⟨rfl, TX_c z2 (by rw [mup_n (by decide)]) (by rw [mup_n (by decide)]) (by rw [mup_n (by decide)]), fun e he => ?_, fun j hj => ⟨?_, ?_, ?_⟩, fun i0 i1 i2 => ?_, fun j hj => ?_⟩
            · cases he
              rw [mup_n (show (138 : Nat) ≠ 140 by decide), mup_n (show (139 : Nat) ≠ 140 by decide), mup_s, upd_s, e17 138 (by decide), e17 139 (by decide), f12 138 (by decide) (by decide), a5, a12]
              exact ⟨rfl, rfl, rfl⟩
            · rw [mup_n (by decide), e17 138 (by decide), f12 138 (by decide) (by decide), b5 j hj]
            · rw [mup_n (by decide), e17 139 (by decide), b12 j hj]
            · rw [mup_s, upd_n hj, e17 140 (by decide), f12 140 (by decide) (by decide), f5 140 (by decide) (by decide)]
            · rw [mup_n (by omega), e17 i0 i1, f12 i0 i1 (by omega), f5 i0 i1 (by omega)]
            · rw [mup_n (by decide), z3.2 j hj, mup_s, upd_n hj, g12 j hj]
          · have eE : entS T i = (i + 4, none) := by unfold entS; rw [if_neg (fun hh => hh c1), if_neg (fun hh => hh c2), if_neg (fun hh => hh c3), if_neg (fun hh => hh c4), if_pos c5]
            rw [eE]
            refine gd_f (dig_e t13) c5 (wp_some ⟨rfl, t13, fun e he => (by cases he), fun j hj => ⟨?_, ?_, ?_⟩, fun i0 i1 i2 => ?_, fun j hj => ?_⟩)
            · rw [mup_n (by decide), f12 138 (by decide) (by decide), b5 j hj]
            · rw [mup_n (by decide), b12 j hj]
            · rw [mup_n (by decide), f12 140 (by decide) (by decide), f5 140 (by decide) (by decide)]
            · rw [mup_n i1, f12 i0 i1 (by omega), f5 i0 i1 (by omega)]
            · rw [mup_s, upd_n hj, g12 j hj]
        · have eE : entS T i = (i + 3, none) := by unfold entS; rw [if_neg (fun hh => hh c1), if_neg (fun hh => hh c2), if_neg (fun hh => hh c3), if_pos c4]
          rw [eE, if_neg c4, bd_some, if_pos (show (0 : Int32) = I 0 from rfl), wq_some]
          refine ⟨rfl, t12, fun e he => (by cases he), fun j hj => ⟨?_, ?_, ?_⟩, fun i0 i1 i2 => ?_, fun j hj => g12 j hj⟩
          · rw [f12 138 (by decide) (by decide), b5 j hj]
          · rw [b12 j hj]
          · rw [f12 140 (by decide) (by decide), f5 140 (by decide) (by decide)]
          · rw [f12 i0 i1 (by omega), f5 i0 i1 (by omega)]
      · have eE : entS T i = (i + 2, none) := by unfold entS; rw [if_neg (fun hh => hh c1), if_neg (fun hh => hh c2), if_pos c3]
        rw [eE]
        refine gd_f (dig_e t6) c3 (wp_some ⟨rfl, t6, fun e he => (by cases he), fun j hj => ⟨?_, ?_, ?_⟩, fun i0 i1 i2 => ?_, fun j hj => ?_⟩)
        · rw [mup_n (by decide), b5 j hj]
        · rw [mup_n (by decide), f5 139 (by decide) (by decide)]
        · rw [mup_n (by decide), f5 140 (by decide) (by decide)]
        · rw [mup_n i1, f5 i0 i1 (by omega)]
        · rw [mup_s, upd_n hj, g5 j hj]
    · have eE : entS T i = (i + 1, none) := by unfold entS; rw [if_neg (fun hh => hh c1), if_pos c2]
      rw [eE, if_neg c2, bd_some, if_pos (show (0 : Int32) = I 0 from rfl), wq_some]
      refine ⟨rfl, t5, fun e he => (by cases he), fun j hj => ⟨b5 j hj, by rw [f5 139 (by decide) (by decide)], by rw [f5 140 (by decide) (by decide)]⟩, fun i0 i1 i2 => f5 i0 i1 (by omega), g5⟩
  · have eE : entS T i = (i, none) := by unfold entS; rw [if_pos c1]
    rw [eE]
    exact gd_f (dig_e h) c1 (wp_some ⟨rfl, h, fun e he => (by cases he), fun j hj => ⟨rfl, rfl, rfl⟩, fun _ _ _ => rfl, fun _ _ => rfl⟩)
/-! the class reads the text -/
theorem read_L {T : List Int32} : ∀ (d n q i : Nat) (M : Mem), q + d = 10 → d < n → TX M T i → M 136 2 = I q → i ≤ T.length → wp (d_X6_read_L12 (fun M9 => some (M9 136 6, M9)) n (I q) M) (fun r M1 => ((parS T d i).2 = none → r = I (parS T d i).1) ∧ (∀ es, (parS T d i).2 = some es → r = I (-1) ∧ enM M1 q es ∧ M1 136 2 = I (q + es.length : Nat)) ∧ (∀ j, j < q → M1 138 j = M 138 j ∧ M1 139 j = M 139 j ∧ M1 140 j = M 140 j) ∧ txf M M1)
  | 0, n + 1, q, i, M, hq, hn, h, h2, hi => by
    rw [sd_X6_read_L12]
    unfold d_X6_read_L12_body
    rw [if_pos (by rw [show (10 : Int32) = I 10 from rfl, I_le (by unfold sm; omega) (by unfold sm; omega)]; omega), wq_some]
    exact ⟨fun _ => h.2.1, fun es he => (by cases he), fun _ _ => ⟨rfl, rfl, rfl⟩, txf_r M⟩
  | d + 1, n + 1, q, i, M, hq, hn, h, h2, hi => by
    have h60 := h.2.2.1
    rw [sd_X6_read_L12]
    unfold d_X6_read_L12_body
    simp only [lit_, neg_I]
    rw [if_neg (by rw [I_le (by unfold sm; omega) (by unfold sm; omega)]; omega), wq_bd]
    refine wp_mono (rde_spec (q := q) (by omega) h) (fun r M3 z => ?_)
    obtain ⟨z1, z2, z3, z4, z5, z6⟩ := z
    have hf3 : txf M M3 := ⟨z5, fun j _ hj => z6 j hj⟩
    rw [z1]
    cases he : (entS T i).2 with
    | none =>
      have eP : parS T (d + 1) i = ((entS T i).1, none) := by
        show (match (entS T i).2 with | none => ((entS T i).1, none) | some e => _) = _
        rw [he]
      rw [if_neg (show ¬ (none : Option En).isSome = true by decide), if_pos rfl, wq_some, eP]
      exact ⟨fun _ => z2.2.1, fun es he => (by cases he), fun j hj => z4 j (by omega), hf3⟩
    | some e =>
      obtain ⟨b1, b2, b3, b4, b5⟩ := ent_b he
      obtain ⟨v1, v2, v3⟩ := z3 e he
      have eP : parS T (d + 1) i = if (entS T i).1 = T.length then ((entS T i).1, some [e]) else if ccT T (entS T i).1 = 44 then ((parS T d ((entS T i).1 + 1)).1, (parS T d ((entS T i).1 + 1)).2.map (fun es => e :: es)) else ((entS T i).1, none) := by
        show (match (entS T i).2 with | none => ((entS T i).1, none) | some e => _) = _
        rw [he]
      rw [if_pos (show (some e).isSome = true from rfl), if_neg (by decide), wq_bnd, z6 2 (by decide), h2, I_add, I_succ]
      generalize hM5 : mup M3 136 2 (I (q + 1 : Nat)) = M5
      have t5 : TX M5 T (entS T i).1 := TX_c z2 (by rw [← hM5, mup_s, upd_n (by decide)]) (by rw [← hM5, mup_s, upd_n (by decide)]) (by rw [← hM5, mup_n (by decide)])
      have g5 : ∀ i, i ≠ 136 → M5 i = M3 i := fun i hi => by rw [← hM5, mup_n hi]
      have h25 : M5 136 2 = I (q + 1 : Nat) := by rw [← hM5, mup_s, upd_s]
      have hf5 : txf M M5 := txf_t hf3 ⟨fun i a _ => g5 i a, fun j a _ => by rw [← hM5, mup_s, upd_n a]⟩
      rw [t5.2.1, t5.1.1]
      by_cases c : (entS T i).1 = T.length
      · rw [if_pos c] at eP
        rw [eP]
        refine wif_t (by omega) (wp_some ⟨fun hh => (by cases hh), fun es hes => ?_, fun j hj => ?_, hf5⟩)
        · cases hes
          refine ⟨rfl, fun k e' hk => ?_, h25⟩
          cases k with
          | zero =>
            cases hk
            rw [g5 138 (by decide), g5 139 (by decide), g5 140 (by decide)]
            exact ⟨v1, v2, v3⟩
          | succ k => cases hk
        · rw [g5 138 (by decide), g5 139 (by decide), g5 140 (by decide)]
          exact z4 j (by omega)
      · rw [if_neg c] at eP
        refine wif_f (by omega) (by omega) (by omega) ?_
        rw [skp_e t5 (by omega)]
        by_cases c2 : ccT T (entS T i).1 = 44
        · rw [if_pos c2] at eP
          rw [if_pos c2, bd_some, if_neg (by decide), wq_bnd]
          have hl := cc_l (T := T) (i := (entS T i).1) (by omega)
          have t6 := TX_at t5 (j := (entS T i).1 + 1) (by omega)
          refine wp_mono (read_L d n (q + 1) ((entS T i).1 + 1) _ (by omega) (by omega) t6 (by rw [mup_s, upd_n (by decide)]; exact h25) (by omega)) (fun r M7 y => ?_)
          obtain ⟨y1, y2, y3, y4⟩ := y
          rw [eP]
          refine ⟨fun hh => ?_, fun es hes => ?_, fun j hj => ?_, txf_t hf5 (txf_t ⟨fun i a _ => mup_n a, fun j _ a => by rw [mup_s, upd_n a]⟩ y4)⟩
          · dsimp only at hh ⊢
            exact y1 (Option.map_eq_none_iff.mp hh)
          · dsimp only at hes
            obtain ⟨es', h1, h2⟩ := Option.map_eq_some_iff.mp hes
            subst h2
            obtain ⟨w1, w2, w3⟩ := y2 es' h1
            refine ⟨w1, fun k e' hk => ?_, ?_⟩
            · cases k with
              | zero =>
                cases hk
                obtain ⟨u1, u2, u3⟩ := y3 q (by omega)
                rw [show q + 0 = q from rfl, u1, u2, u3, mup_n (by decide), mup_n (by decide), mup_n (by decide), g5 138 (by decide), g5 139 (by decide), g5 140 (by decide)]
                exact ⟨v1, v2, v3⟩
              | succ k =>
                have := w2 k e' hk
                rw [show q + (k + 1) = q + 1 + k by omega]
                exact this
            · rw [w3]
              congr 1
              rw [List.length_cons]
              omega
          · obtain ⟨u1, u2, u3⟩ := y3 j (by omega)
            rw [u1, u2, u3, mup_n (by decide), mup_n (by decide), mup_n (by decide), g5 138 (by decide), g5 139 (by decide), g5 140 (by decide)]
            exact z4 j (by omega)
        · rw [if_neg c2] at eP
          rw [if_neg c2, bd_some, if_pos (show (0 : Int32) = I 0 from rfl), wq_some, eP]
          refine ⟨fun _ => t5.2.1, fun es hes => (by cases hes), fun j hj => ?_, hf5⟩
          rw [g5 138 (by decide), g5 139 (by decide), g5 140 (by decide)]
          exact z4 j (by omega)
  | _, 0, _, _, _, _, hn, _, _, _ => absurd hn (by omega)
theorem read_spec {T : List Int32} {M : Mem} (ht : txC M T) (h60 : T.length ≤ 60) (hok : ∀ c ∈ T, cOk c) : wp (d_X6_read M) (fun r M1 => ((parS T 10 0).2 = none → r = I (parS T 10 0).1) ∧ (∀ es, (parS T 10 0).2 = some es → r = I (-1) ∧ enM M1 0 es ∧ M1 136 2 = I es.length) ∧ txf M M1) := by
  unfold d_X6_read
  rw [wq_bnd, wq_bnd, show (0 : Int32) = I ((0 : Nat) : Int) from rfl]
  have tx : TX (mup (mup M 136 2 (I ((0 : Nat) : Int))) 136 6 (I ((0 : Nat) : Int))) T 0 := ⟨⟨by rw [mup_s, upd_n (by decide), mup_s, upd_n (by decide)]; exact ht.1, fun j c hj => by rw [mup_n (by decide), mup_n (by decide)]; exact ht.2 j c hj⟩, by rw [mup_s, upd_s], h60, by omega, hok⟩
  refine wp_mono (read_L (T := T) 10 fuelN 0 0 _ rfl (by unfold fuelN; omega) tx (by rw [mup_s, upd_n (by decide), mup_s, upd_s]) (by omega)) (fun r M1 z => ⟨z.1, fun es he => ?_, txf_t ⟨fun i a _ => by rw [mup_n a, mup_n a], fun j a b => by rw [mup_s, upd_n b, mup_s, upd_n a]⟩ z.2.2.2⟩)
  obtain ⟨w1, w2, w3⟩ := z.2.1 es he
  rw [Nat.zero_add] at w3
  exact ⟨w1, w2, w3⟩
/-! what the entries are -/
def Chn (T : List Int32) : Nat → List En → Prop
  | _, [] => True
  | i, e :: es => (entS T i).2 = some e ∧ Chn T ((entS T i).1 + 1) es
theorem par_c {T : List Int32} : ∀ (d i : Nat) (es : List En), (parS T d i).2 = some es → Chn T i es ∧ 1 ≤ es.length ∧ es.length ≤ d ∧ ∀ e ∈ es, (0 ≤ e.1 ∧ e.1 ≤ 9) ∧ (0 ≤ e.2.1 ∧ e.2.1 ≤ 9) ∧ (0 ≤ e.2.2 ∧ e.2.2 ≤ 9999)
  | 0, i, es, h => by cases h
  | d + 1, i, es, h => by
    cases he : (entS T i).2 with
    | none =>
      have eP : parS T (d + 1) i = ((entS T i).1, none) := by
        show (match (entS T i).2 with | none => ((entS T i).1, none) | some e => _) = _
        rw [he]
      rw [eP] at h
      cases h
    | some e =>
      have hb := ent_b he
      have eP : parS T (d + 1) i = if (entS T i).1 = T.length then ((entS T i).1, some [e]) else if ccT T (entS T i).1 = 44 then ((parS T d ((entS T i).1 + 1)).1, (parS T d ((entS T i).1 + 1)).2.map (fun es => e :: es)) else ((entS T i).1, none) := by
        show (match (entS T i).2 with | none => ((entS T i).1, none) | some e => _) = _
        rw [he]
      rw [eP] at h
      by_cases c : (entS T i).1 = T.length
      · rw [if_pos c] at h
        cases h
        refine ⟨⟨he, trivial⟩, by simp, by simp, fun x hx => ?_⟩
        rw [List.mem_singleton.mp hx]
        exact hb.2.2
      · rw [if_neg c] at h
        by_cases c2 : ccT T (entS T i).1 = 44
        · rw [if_pos c2] at h
          obtain ⟨es', h1, h2⟩ := Option.map_eq_some_iff.mp h
          subst h2
          obtain ⟨i1, i2, i3, i4⟩ := par_c d _ es' h1
          refine ⟨⟨he, i1⟩, by rw [List.length_cons]; omega, by rw [List.length_cons]; omega, fun x hx => ?_⟩
          rcases List.mem_cons.mp hx with h | h
          · rw [h]; exact hb.2.2
          · exact i4 x h
        · rw [if_neg c2] at h
          cases h
/-! the reference reads -/
def TR (M : Mem) (T : List Int32) (i : Nat) : Prop := txR M T ∧ M 143 20 = I i ∧ T.length ≤ 60 ∧ i ≤ T.length
def rtf (M M1 : Mem) : Prop := (∀ i, i ≠ 143 → M1 i = M i) ∧ ∀ j, j < 20 ∨ 23 < j → M1 143 j = M 143 j
theorem rtf_r (M : Mem) : rtf M M := ⟨fun _ _ => rfl, fun _ _ => rfl⟩
theorem rtf_t {M M1 M2 : Mem} (h : rtf M M1) (k : rtf M1 M2) : rtf M M2 := ⟨fun i a => (k.1 i a).trans (h.1 i a), fun j a => (k.2 j a).trans (h.2 j a)⟩
theorem rtf_u {M : Mem} {j : Nat} (v : Int32) (hj : 20 ≤ j ∧ j ≤ 23) : rtf M (mup M 143 j v) := ⟨fun i a => mup_n a, fun k a => by rw [mup_s, upd_n (by omega)]⟩
theorem TR_f {M M1 : Mem} {T : List Int32} {i j : Nat} (h : TR M T i) (hf : rtf M M1) (ha : M1 143 20 = I j) (hj : j ≤ T.length) : TR M1 T j := ⟨txR_congr h.1 (hf.2 18 (by decide)) (hf.1 153 (by decide)), ha, h.2.2.1, hj⟩
theorem tx_get {M : Mem} {T : List Int32} {i : Nat} (h : TR M T i) (hl : i < T.length) : M 153 i = I (ccT T i) := by
  have hget : T[i]? = some T[i] := List.getElem?_eq_getElem hl
  rw [h.1.2 i _ hget]
  unfold ccT
  rw [hget]
  dsimp only
  rw [I_toInt]
theorem rdig_e {M : Mem} {T : List Int32} {i : Nat} (h : TR M T i) : d_X9_isDigit M = some ((if dgT T i then 1 else 0), M) := by
  have hb := cc_b T i
  obtain ⟨h1, h2, h3, h4⟩ := id h
  unfold d_X9_isDigit
  rw [h1.1, h2]
  simp only [lit_, neg_I]
  by_cases c : i < T.length
  · rw [if_neg (by rw [I_le (by unfold sm; omega) (by unfold sm; omega)]; omega), chk_I (by omega) (by omega) (by omega), I_clamp (by unfold sm; omega), Int.toNat_natCast, tx_get h c, rin_I hb (by omega) (by omega), bd_some]
    by_cases k : dgT T i
    · rw [if_pos k, if_neg (by decide), if_pos k]
    · rw [if_neg k, if_pos (show (0 : Int32) = I 0 from rfl), if_neg k]
  · rw [if_pos (by rw [I_le (by unfold sm; omega) (by unfold sm; omega)]; omega), if_neg]
    unfold dgT ccT
    rw [List.getElem?_eq_none (by omega)]
    dsimp only
    omega
theorem rtk_e {M : Mem} {T : List Int32} {i : Nat} (h : TR M T i) {c : Int} (hc : 1 ≤ c ∧ c ≤ 1000) : d_X9_takes (I c) M = if ccT T i = c then some (1, mup M 143 20 (I (i + 1 : Nat))) else some (0, M) := by
  have hb := cc_b T i
  obtain ⟨h1, h2, h3, h4⟩ := id h
  unfold d_X9_takes
  rw [h1.1, h2]
  by_cases k : i < T.length
  · rw [if_neg (by rw [I_eq (by unfold sm; omega) (by unfold sm; omega)]; omega), chk_I (by omega) (by omega) (by omega), I_clamp (by unfold sm; omega), Int.toNat_natCast, tx_get h k]
    by_cases e : ccT T i = c
    · rw [if_pos (by rw [e]), if_pos e, bnd_e, show (1 : Int32) = I 1 from rfl, I_add, I_succ]
    · rw [if_neg (by rw [I_eq (by unfold sm; omega) (by unfold sm; omega)]; exact e), if_neg e]
  · rw [if_pos (by rw [I_eq (by unfold sm; omega) (by unfold sm; omega)]; omega), if_neg]
    unfold ccT
    rw [List.getElem?_eq_none (by omega)]
    dsimp only
    omega
theorem rnum_L {T : List Int32} : ∀ (k n : Nat) (v : Int) (i : Nat) (M : Mem), k ≤ 3 → k < n → TR M T i → M 143 21 = I v → 1 ≤ v → ((k = 3 → v ≤ 9) ∧ (k = 2 → v ≤ 99) ∧ (k = 1 → v ≤ 999) ∧ (k = 0 → v ≤ 9999)) → wp (d_X9_takesNumber_L37 (I 4) (fun M10 => some (1, M10)) n (I (4 - k : Int)) M) (fun r M1 => r = I 1 ∧ TR M1 T (numR T k v i).2 ∧ M1 143 21 = I (numR T k v i).1 ∧ rtf M M1 ∧ M1 143 22 = M 143 22 ∧ M1 143 23 = M 143 23)
  | 0, n + 1, v, i, M, hk, hn, h, h21, hv, hb => by
    rw [sd_X9_takesNumber_L37]
    unfold d_X9_takesNumber_L37_body
    rw [if_pos (by rw [I_le (by unfold sm; omega) (by unfold sm; omega)]; omega), wq_some]
    exact ⟨rfl, h, h21, rtf_r M, rfl, rfl⟩
  | k + 1, n + 1, v, i, M, hk, hn, h, h21, hv, hb => by
    rw [sd_X9_takesNumber_L37]
    unfold d_X9_takesNumber_L37_body
    simp only [lit_, neg_I]
    rw [if_neg (by rw [I_le (by unfold sm; omega) (by unfold sm; omega)]; omega), h21, if_neg (by rw [I_le (by unfold sm; omega) (by unfold sm; omega)]; omega)]
    unfold numR
    by_cases c : dgT T i
    · refine gd_t (rdig_e h) c ?_
      have hl := cc_l (T := T) (i := i) (by omega)
      have h60 := h.2.2.1
      rw [if_pos c, h.2.1, wchk_I (by omega) (by omega) (by omega), wq_bnd, I_clamp (by unfold sm; omega), Int.toNat_natCast, tx_get h hl, h21, I_mul, I_add, I_sub, wq_bnd]
      rw [show (mup M 143 21 (I (10 * v + ccT T i - 48))) 143 20 = I i from by rw [mup_s, upd_n (by decide)]; exact h.2.1, I_add (4 - ((k + 1 : Nat) : Int)) 1, I_add (i : Int) 1, I_succ, wq_bnd, show (4 - ((k + 1 : Nat) : Int) + 1) = 4 - (k : Int) by omega, show 10 * v + ccT T i - 48 = 10 * v + (ccT T i - 48) by omega]
      obtain ⟨c1, c2⟩ := c
      have hf := rtf_t (rtf_u (M := M) (j := 21) (I (10 * v + (ccT T i - 48))) (by omega)) (rtf_u (j := 20) (I (i + 1 : Nat)) (by omega))
      refine wp_mono (rnum_L k n (10 * v + (ccT T i - 48)) (i + 1) _ (by omega) (by omega) (TR_f h hf (by rw [mup_s, upd_s]) (by omega)) (by rw [mup_s, upd_n (by decide), mup_s, upd_s]) (by omega) (by omega)) (fun r M1 z => ?_)
      obtain ⟨z1, z2, z3, z4, z5, z6⟩ := z
      refine ⟨z1, z2, z3, rtf_t hf z4, ?_, ?_⟩
      · rw [z5, mup_s, upd_n (by decide), mup_s, upd_n (by decide)]
      · rw [z6, mup_s, upd_n (by decide), mup_s, upd_n (by decide)]
    · refine gd_f (rdig_e h) c ?_
      rw [if_neg c]
      exact wp_some ⟨rfl, h, h21, rtf_r M, rfl, rfl⟩
  | _, 0, _, _, _, _, hn, _, _, _, _ => absurd hn (by omega)
/-- one digit -/
theorem rn1_spec {T : List Int32} {i : Nat} {M : Mem} (h : TR M T i) : wp (d_X9_takesNumber (I 1) M) (fun r M1 => (dgT T i → r = 1 ∧ TR M1 T (i + 1) ∧ M1 143 21 = I (ccT T i - 48) ∧ M1 143 22 = M 143 22 ∧ M1 143 23 = M 143 23) ∧ (¬ dgT T i → r = 0 ∧ M1 = M) ∧ rtf M M1) := by
  unfold d_X9_takesNumber
  simp only [lit_, neg_I]
  by_cases c : dgT T i
  · refine gd_t (rdig_e h) c ?_
    have hl := cc_l (T := T) (i := i) (by omega)
    have h60 := h.2.2.1
    rw [h.2.1, wchk_I (by omega) (by omega) (by omega), wq_bnd, I_clamp (by unfold sm; omega), Int.toNat_natCast, tx_get h hl, I_sub, wq_bnd]
    rw [show (mup M 143 21 (I (ccT T i - 48))) 143 20 = I i from by rw [mup_s, upd_n (by decide)]; exact h.2.1, I_add, I_succ, ud_X9_takesNumber_L37]
    unfold d_X9_takesNumber_L37_body
    rw [if_pos (by decide), wq_some]
    have hf := rtf_t (rtf_u (M := M) (j := 21) (I (ccT T i - 48)) (by omega)) (rtf_u (j := 20) (I (i + 1 : Nat)) (by omega))
    refine ⟨fun _ => ⟨rfl, TR_f h hf (by rw [mup_s, upd_s]) (by omega), ?_, ?_, ?_⟩, fun hh => absurd c hh, hf⟩
    · rw [mup_s, upd_n (by decide), mup_s, upd_s]
    · rw [mup_s, upd_n (by decide), mup_s, upd_n (by decide)]
    · rw [mup_s, upd_n (by decide), mup_s, upd_n (by decide)]
  · exact gd_f (rdig_e h) c (wp_some ⟨fun hh => absurd hh c, fun _ => ⟨rfl, rfl⟩, rtf_r M⟩)
theorem rn4_spec {T : List Int32} {i : Nat} {M : Mem} (h : TR M T i) : wp (d_X9_takesNumber (I 4) M) (fun r M1 => (dgT T i → r = 1 ∧ TR M1 T (stS T i).2 ∧ M1 143 21 = I (stS T i).1 ∧ M1 143 22 = M 143 22 ∧ M1 143 23 = M 143 23) ∧ (¬ dgT T i → r = 0 ∧ M1 = M) ∧ rtf M M1) := by
  unfold d_X9_takesNumber
  simp only [lit_, neg_I]
  by_cases c : dgT T i
  · refine gd_t (rdig_e h) c ?_
    have hl := cc_l (T := T) (i := i) (by omega)
    have h60 := h.2.2.1
    rw [h.2.1, wchk_I (by omega) (by omega) (by omega), wq_bnd, I_clamp (by unfold sm; omega), Int.toNat_natCast, tx_get h hl, I_sub, wq_bnd]
    rw [show (mup M 143 21 (I (ccT T i - 48))) 143 20 = I i from by rw [mup_s, upd_n (by decide)]; exact h.2.1, I_add, I_succ]
    have hf := rtf_t (rtf_u (M := M) (j := 21) (I (ccT T i - 48)) (by omega)) (rtf_u (j := 20) (I (i + 1 : Nat)) (by omega))
    generalize hM4 : mup (mup M 143 21 (I (ccT T i - 48))) 143 20 (I (i + 1 : Nat)) = M4 at hf ⊢
    have t4 : TR M4 T (i + 1) := TR_f h hf (by rw [← hM4, mup_s, upd_s]) (by omega)
    have e21 : M4 143 21 = I (ccT T i - 48) := by rw [← hM4, mup_s, upd_n (by decide), mup_s, upd_s]
    have e22 : M4 143 22 = M 143 22 := by rw [← hM4, mup_s, upd_n (by decide), mup_s, upd_n (by decide)]
    have e23 : M4 143 23 = M 143 23 := by rw [← hM4, mup_s, upd_n (by decide), mup_s, upd_n (by decide)]
    unfold stS
    by_cases c0 : ccT T i - 48 = 0
    · rw [ud_X9_takesNumber_L37]
      unfold d_X9_takesNumber_L37_body
      rw [if_neg (by decide), e21, c0, if_pos (by decide), wq_some]
      refine ⟨fun _ => ⟨rfl, t4, by rw [e21, c0]; rfl, e22, e23⟩, fun hh => absurd c hh, hf⟩
    · rw [if_neg c0]
      obtain ⟨c1, c2⟩ := id c
      have := rnum_L (T := T) 3 fuelN (ccT T i - 48) (i + 1) M4 (by omega) (by unfold fuelN; omega) t4 e21 (by omega) (by omega)
      refine wp_mono this (fun r M1 z => ?_)
      obtain ⟨z1, z2, z3, z4, z5, z6⟩ := z
      exact ⟨fun _ => ⟨z1, z2, z3, z5.trans e22, z6.trans e23⟩, fun hh => absurd c hh, rtf_t hf z4⟩
  · exact gd_f (rdig_e h) c (wp_some ⟨fun hh => absurd hh c, fun _ => ⟨rfl, rfl⟩, rtf_r M⟩)
theorem rtb_spec {T : List Int32} {i : Nat} {M : Mem} (h : TR M T i) : wp (d_X9_takesBooking M) (fun r M1 => r = (if (entS T i).2.isSome = true then I 1 else I 0) ∧ TR M1 T (entS T i).1 ∧ (∀ e, (entS T i).2 = some e → M1 143 22 = I e.1 ∧ M1 143 23 = I e.2.1 ∧ M1 143 21 = I e.2.2) ∧ rtf M M1) := by
  unfold d_X9_takesBooking
  simp only [lit_, neg_I]
  rw [wq_bd]
  refine wp_mono (rn1_spec h) (fun r M1 z => ?_)
  obtain ⟨za, zb, zf⟩ := z
  by_cases c1 : dgT T i
  · obtain ⟨z1, z2, z3, z4, z5⟩ := za c1
    rw [z1, if_neg (by decide), wq_bnd, z3]
    have hf3 := rtf_t zf (rtf_u (M := M1) (j := 22) (I (ccT T i - 48)) (by omega))
    have l1 := cc_l (T := T) (i := i) (by omega)
    have t3 : TR (mup M1 143 22 (I (ccT T i - 48))) T (i + 1) := TR_f h hf3 (by rw [mup_s, upd_n (by decide)]; exact z2.2.1) (by omega)
    rw [rtk_e t3 (by omega)]
    by_cases c2 : ccT T (i + 1) = 58
    · rw [if_pos c2, bd_some, if_neg (by decide), wq_bd]
      have l2 := cc_l (T := T) (i := i + 1) (by omega)
      have hf4 := rtf_t hf3 (rtf_u (j := 20) (I (i + 1 + 1 : Nat)) (by omega))
      have t4 : TR (mup (mup M1 143 22 (I (ccT T i - 48))) 143 20 (I (i + 1 + 1 : Nat))) T (i + 2) := TR_f h hf4 (by rw [mup_s, upd_s]) (by omega)
      have e22 : (mup (mup M1 143 22 (I (ccT T i - 48))) 143 20 (I (i + 1 + 1 : Nat))) 143 22 = I (ccT T i - 48) := by rw [mup_s, upd_n (by decide), mup_s, upd_s]
      refine wp_mono (rn1_spec t4) (fun r M6 y => ?_)
      obtain ⟨ya, yb, yf⟩ := y
      by_cases c3 : dgT T (i + 2)
      · obtain ⟨y1, y2, y3, y4, y5⟩ := ya c3
        rw [y1, if_neg (by decide), wq_bnd, y3]
        have l3 := cc_l (T := T) (i := i + 2) (by omega)
        have hf8 := rtf_t (rtf_t hf4 yf) (rtf_u (M := M6) (j := 23) (I (ccT T (i + 2) - 48)) (by omega))
        have t8 : TR (mup M6 143 23 (I (ccT T (i + 2) - 48))) T (i + 3) := TR_f h hf8 (by rw [mup_s, upd_n (by decide)]; exact y2.2.1) (by omega)
        rw [rtk_e t8 (by omega)]
        by_cases c4 : ccT T (i + 3) = 64
        · rw [if_pos c4, bd_some, if_neg (by decide), wq_bd]
          have l4 := cc_l (T := T) (i := i + 3) (by omega)
          have hf9 := rtf_t hf8 (rtf_u (j := 20) (I (i + 3 + 1 : Nat)) (by omega))
          have t9 : TR (mup (mup M6 143 23 (I (ccT T (i + 2) - 48))) 143 20 (I (i + 3 + 1 : Nat))) T (i + 4) := TR_f h hf9 (by rw [mup_s, upd_s]) (by omega)
          have k22 : (mup (mup M6 143 23 (I (ccT T (i + 2) - 48))) 143 20 (I (i + 3 + 1 : Nat))) 143 22 = I (ccT T i - 48) := by rw [mup_s, upd_n (by decide), mup_s, upd_n (by decide), y4]; exact e22
          have k23 : (mup (mup M6 143 23 (I (ccT T (i + 2) - 48))) 143 20 (I (i + 3 + 1 : Nat))) 143 23 = I (ccT T (i + 2) - 48) := by rw [mup_s, upd_n (by decide), mup_s, upd_s]
          refine wp_mono (rn4_spec t9) (fun r M11 x => ?_)
          obtain ⟨xa, xb, xf⟩ := x
          by_cases c5 : dgT T (i + 4)
          · obtain ⟨x1, x2, x3, x4, x5⟩ := xa c5
            have eE : entS T i = ((stS T (i + 4)).2, some (ccT T i - 48, ccT T (i + 2) - 48, (stS T (i + 4)).1)) := by unfold entS; rw [if_neg (fun hh => hh c1), if_neg (fun hh => hh c2), if_neg (fun hh => hh c3), if_neg (fun hh => hh c4), if_neg (fun hh => hh c5)]
            rw [x1, if_neg (by decide), wq_some, eE]
            refine ⟨rfl, x2, fun e he => ?_, rtf_t hf9 xf⟩
            cases he
            exact ⟨x4.trans k22, x5.trans k23, x3⟩
          · obtain ⟨x1, x2⟩ := xb c5
            have eE : entS T i = (i + 4, none) := by unfold entS; rw [if_neg (fun hh => hh c1), if_neg (fun hh => hh c2), if_neg (fun hh => hh c3), if_neg (fun hh => hh c4), if_pos c5]
            rw [x1, if_pos (show (0 : Int32) = I 0 from rfl), wq_some, eE, x2]
            exact ⟨rfl, t9, fun e he => (by cases he), hf9⟩
        · have eE : entS T i = (i + 3, none) := by unfold entS; rw [if_neg (fun hh => hh c1), if_neg (fun hh => hh c2), if_neg (fun hh => hh c3), if_pos c4]
          rw [if_neg c4, bd_some, if_pos (show (0 : Int32) = I 0 from rfl), wq_some, eE]
          exact ⟨rfl, t8, fun e he => (by cases he), hf8⟩
      · obtain ⟨y1, y2⟩ := yb c3
        have eE : entS T i = (i + 2, none) := by unfold entS; rw [if_neg (fun hh => hh c1), if_neg (fun hh => hh c2), if_pos c3]
        rw [y1, if_pos (show (0 : Int32) = I 0 from rfl), wq_some, eE, y2]
        exact ⟨rfl, t4, fun e he => (by cases he), hf4⟩
    · have eE : entS T i = (i + 1, none) := by unfold entS; rw [if_neg (fun hh => hh c1), if_pos c2]
      rw [if_neg c2, bd_some, if_pos (show (0 : Int32) = I 0 from rfl), wq_some, eE]
      exact ⟨rfl, t3, fun e he => (by cases he), hf3⟩
  · obtain ⟨z1, z2⟩ := zb c1
    have eE : entS T i = (i, none) := by unfold entS; rw [if_pos c1]
    rw [z1, if_pos (show (0 : Int32) = I 0 from rfl), wq_some, eE, z2]
    exact ⟨rfl, h, fun e he => (by cases he), rtf_r M⟩
/-! bookAll -/
theorem bot_L {T : List Int32} : ∀ (d n i a : Nat) (M : Mem), d ≤ 10 → d + 1 < n → a + d ≤ 100 → TR M T i → 6 * (10 - d) ≤ i → wp (d_X9_bookingsOfText_L9 (fun v7 M8 => some (v7, M8)) n (I a) (I 1) M) (fun r M1 => ((parS T d i).2 = none → r = I (-5) ∧ M1 143 20 = I (parS T d i).1) ∧ (∀ es, (parS T d i).2 = some es → r = I (a + es.length : Nat)) ∧ rtf M M1)
  | 0, n + 1, i, a, M, hd, hn, ha, h, hi => by
    have h60 := h.2.2.1
    have hil := h.2.2.2
    have hno : ¬ dgT T i := by
      unfold dgT ccT
      rw [List.getElem?_eq_none (by omega)]
      dsimp only
      omega
    have eE : entS T i = (i, none) := by unfold entS; rw [if_pos hno]
    rw [sd_X9_bookingsOfText_L9]
    unfold d_X9_bookingsOfText_L9_body
    simp only [lit_, neg_I]
    refine wif_f (by omega) (by omega) (by decide) ?_
    rw [wq_bd]
    refine wp_mono (rtb_spec h) (fun r M1 z => ?_)
    obtain ⟨z1, z2, z3, z4⟩ := z
    rw [eE] at z1 z2
    rw [z1, if_neg (show ¬ (none : Option En).isSome = true by decide), if_pos rfl, wq_some]
    exact ⟨fun _ => ⟨rfl, z2.2.1⟩, fun es he => (by cases he), z4⟩
  | d + 1, n + 1, i, a, M, hd, hn, ha, h, hi => by
    have h60 := h.2.2.1
    rw [sd_X9_bookingsOfText_L9]
    unfold d_X9_bookingsOfText_L9_body
    simp only [lit_, neg_I]
    refine wif_f (by omega) (by omega) (by decide) ?_
    rw [wq_bd]
    refine wp_mono (rtb_spec h) (fun r M1 z => ?_)
    obtain ⟨z1, z2, z3, z4⟩ := z
    rw [z1]
    cases he : (entS T i).2 with
    | none =>
      have eP : parS T (d + 1) i = ((entS T i).1, none) := by
        show (match (entS T i).2 with | none => ((entS T i).1, none) | some e => _) = _
        rw [he]
      rw [if_neg (show ¬ (none : Option En).isSome = true by decide), if_pos rfl, wq_some, eP]
      exact ⟨fun _ => ⟨rfl, z2.2.1⟩, fun es he => (by cases he), z4⟩
    | some e =>
      obtain ⟨b1, b2, b3, b4, b5⟩ := ent_b he
      have eP : parS T (d + 1) i = if (entS T i).1 = T.length then ((entS T i).1, some [e]) else if ccT T (entS T i).1 = 44 then ((parS T d ((entS T i).1 + 1)).1, (parS T d ((entS T i).1 + 1)).2.map (fun es => e :: es)) else ((entS T i).1, none) := by
        show (match (entS T i).2 with | none => ((entS T i).1, none) | some e => _) = _
        rw [he]
      rw [if_pos (show (some e).isSome = true from rfl), if_neg (by decide), wq_bnd, I_add, I_succ, z2.1.1, z2.2.1]
      by_cases c : (entS T i).1 = T.length
      · rw [if_pos c] at eP
        rw [if_pos (by rw [I_le (by unfold sm; omega) (by unfold sm; omega)]; omega), eP]
        unfold d_X9_bookingsOfText_B42
        simp only [lit_, neg_I]
        rw [if_pos trivial]
        obtain ⟨n', rfl⟩ : ∃ n', n = n' + 1 := ⟨n - 1, by omega⟩
        rw [sd_X9_bookingsOfText_L9]
        unfold d_X9_bookingsOfText_L9_body
        rw [if_pos (show (I 0 : Int32) = 0 from rfl), wq_some]
        refine ⟨fun hh => (by cases hh), fun es hes => ?_, z4⟩
        cases hes
        rfl
      · rw [if_neg c] at eP
        rw [if_neg (by rw [I_le (by unfold sm; omega) (by unfold sm; omega)]; omega)]
        unfold d_X9_bookingsOfText_B42
        simp only [lit_, neg_I]
        refine wif_f (by omega) (by omega) (by decide) ?_
        rw [rtk_e z2 (by omega)]
        by_cases c2 : ccT T (entS T i).1 = 44
        · rw [if_pos c2] at eP
          rw [if_pos c2, bd_some, if_neg (by decide)]
          have hl := cc_l (T := T) (i := (entS T i).1) (by omega)
          have hf := rtf_t z4 (rtf_u (M := M1) (j := 20) (I ((entS T i).1 + 1 : Nat)) (by omega))
          have t5 : TR (mup M1 143 20 (I ((entS T i).1 + 1 : Nat))) T ((entS T i).1 + 1) := TR_f h hf (by rw [mup_s, upd_s]) (by omega)
          refine wp_mono (bot_L d n ((entS T i).1 + 1) (a + 1) _ (by omega) (by omega) (by omega) t5 (by omega)) (fun r M2 y => ?_)
          obtain ⟨y1, y2, y3⟩ := y
          rw [eP]
          refine ⟨fun hh => ?_, fun es hes => ?_, rtf_t hf y3⟩
          · dsimp only at hh ⊢
            exact y1 (Option.map_eq_none_iff.mp hh)
          · dsimp only at hes
            obtain ⟨es', h1, h2⟩ := Option.map_eq_some_iff.mp hes
            subst h2
            rw [y2 es' h1, List.length_cons]
            congr 1
            omega
        · rw [if_neg c2] at eP
          rw [if_neg c2, bd_some, if_pos (show (0 : Int32) = I 0 from rfl), wq_some, eP]
          exact ⟨fun _ => ⟨rfl, z2.2.1⟩, fun es hes => (by cases hes), z4⟩
  | _, 0, _, _, _, _, hn, _, _, _ => absurd hn (by omega)
/-- the entries, one after another -/
def bkS : List En → (Nat → Int) → (Nat → Int) × Int
  | [], S => (S, 0)
  | e :: es, S => if errS S e.1 e.2.1 e.2.2 = 0 then bkS es (addS S e.1 e.2.1 e.2.2) else (S, errS S e.1 e.2.1 e.2.2)
theorem bk_b : ∀ (es : List En) (S : Nat → Int), -7 ≤ (bkS es S).2 ∧ (bkS es S).2 ≤ 0
  | [], S => ⟨by show -7 ≤ (0 : Int); decide, Int.le_refl _⟩
  | e :: es, S => by
    unfold bkS
    split
    · exact bk_b es _
    · exact errS_b S _ _ _
theorem bk_SI : ∀ (es : List En) (S : Nat → Int) (W : List Wi), SInv (S, W) → SInv ((bkS es S).1, W)
  | [], S, W, h => h
  | e :: es, S, W, h => by
    unfold bkS
    split
    · rename_i c
      obtain ⟨c1, c2, c3, c4⟩ := errS_0 h c
      exact bk_SI es _ W (SI_add h c4 c1 c2 c3)
    · exact h
def enOk (e : En) : Prop := (0 ≤ e.1 ∧ e.1 ≤ 9) ∧ (0 ≤ e.2.1 ∧ e.2.1 ≤ 9) ∧ (0 ≤ e.2.2 ∧ e.2.2 ≤ 9999)
theorem cbk_L {W : List Wi} {s0 : St} (h0 : s0.2.length ≤ 8) {kx : Mem → Ans} {Q : Int32 → Mem → Prop} : ∀ (es : List En) (n q : Nat) (S : Nat → Int) (M : Mem), es.length < n → q + es.length ≤ 10 → SInv (S, W) → cv 0 M (S, W) → cv 1 M s0 → enM M q es → M 136 2 = I (q + es.length : Nat) → (∀ e ∈ es, enOk e) → ((bkS es S).2 ≠ 0 → ∀ M1, cv 0 M1 s0 → cqf' M M1 → Q (I (bkS es S).2) M1) → ((bkS es S).2 = 0 → ∀ M1, cv 0 M1 ((bkS es S).1, W) → cqf' M M1 → wp (kx M1) Q) → wp (d_X8_bookAll_L31 kx n (I q) M) Q
  | [], n + 1, q, S, M, hn, hq, hi, hc, hc1, hen, h2, hok, k1, k2 => by
    rw [sd_X8_bookAll_L31]
    unfold d_X8_bookAll_L31_body
    rw [h2, if_pos (by rw [I_le (by unfold sm; simp only [List.length_nil]; omega) (by unfold sm; omega)]; simp only [List.length_nil]; omega)]
    exact k2 rfl M hc (fun _ _ => rfl)
  | e :: es, n + 1, q, S, M, hn, hq, hi, hc, hc1, hen, h2, hok, k1, k2 => by
    rw [List.length_cons] at hn hq h2
    obtain ⟨v1, v2, v3⟩ := hen 0 e rfl
    rw [Nat.add_zero] at v1 v2 v3
    have he := hok e List.mem_cons_self
    unfold enOk at he
    have hb := errS_b S e.1 e.2.1 e.2.2
    rw [sd_X8_bookAll_L31]
    unfold d_X8_bookAll_L31_body
    simp only [lit_, neg_I]
    rw [h2, if_neg (by rw [I_le (by unfold sm; omega) (by unfold sm; omega)]; omega), wchk_I (by omega) (by omega) (by omega), wchk_I (by omega) (by omega) (by omega), wchk_I (by omega) (by omega) (by omega), I_clamp (by unfold sm; omega), Int.toNat_natCast, v1, v2, v3, wq_bd]
    refine wp_mono (cerr_spec hi (a := e.1) (r := e.2.1) (st := e.2.2) (by omega) (by omega) (by omega) hc) (fun r M1 z => ?_)
    obtain ⟨z1, z2⟩ := z
    have f1 : ∀ i, i < 112 ∨ 134 ≤ i → M1 i = M i := z2
    rw [z1]
    unfold bkS at k1 k2
    by_cases c : errS S e.1 e.2.1 e.2.2 = 0
    · rw [if_pos c] at k1 k2
      obtain ⟨c1, c2, c3, c4⟩ := errS_0 hi c
      refine wif_t c ?_
      rw [wchk_I (by omega) (by omega) (by omega), wchk_I (by omega) (by omega) (by omega), wchk_I (by omega) (by omega) (by omega), f1 138 (by omega), f1 139 (by omega), f1 140 (by omega), v1, v2, v3, wq_bd]
      refine wp_mono (app_spec (cqf_v z2 hc) hi c4 e.1 e.2.1 e.2.2) (fun r M2 u => ?_)
      obtain ⟨-, u2, u3⟩ := u
      have f2 : cqf' M M2 := fun i hi => (u3 i (by omega)).trans (f1 i (by omega))
      rw [wq_bnd, I_add, I_succ]
      refine cbk_L h0 es n (q + 1) _ M2 (by omega) (by omega) (SI_add hi c4 c1 c2 c3) u2 (cv_congr hc1 (fun j hj => f2 _ (by unfold sI; omega))) (fun k e' hk => ?_) ?_ (fun x hx => hok x (List.mem_cons_of_mem _ hx)) (fun hne M3 y1 y2 => k1 hne M3 y1 (fun i hi => (y2 i hi).trans (f2 i hi))) (fun heq M3 y1 y2 => k2 heq M3 y1 (fun i hi => (y2 i hi).trans (f2 i hi)))
      · have := hen (k + 1) e' hk
        rw [f2 138 (by omega), f2 139 (by omega), f2 140 (by omega), show q + 1 + k = q + (k + 1) by omega]
        exact this
      · rw [f2 136 (by omega), h2]
        congr 1
        omega
    · rw [if_neg c] at k1 k2
      refine wif_f (by omega) (by omega) c ?_
      rw [wq_bd]
      refine wp_mono (copy_cv (k := 0) (q := 1) (by decide) h0 (cv_congr hc1 (fun j hj => f1 _ (by unfold sI; omega)))) (fun r M2 u => ?_)
      obtain ⟨-, u2, u3⟩ := u
      rw [wq_some]
      exact k1 c M2 u2 (fun i hi => (u3 i (by omega)).trans (f1 i (by omega)))
  | _, 0, _, _, _, hn, _, _, _, _, _, _, _, _, _ => absurd hn (by omega)
theorem rbk_L {W : List Wi} {T : List Int32} {s0 : St} (h0 : s0.2.length ≤ 8) {N : Nat} (hN : N ≤ 10) {kx : Mem → Ans} {Q : Int32 → Mem → Prop} : ∀ (es : List En) (n q i : Nat) (S : Nat → Int) (M : Mem), es.length < n → q + es.length = N → SInv (S, W) → rv (M 144) (S, W) → scR M → txR M T → T.length ≤ 60 → (es ≠ [] → i ≤ T.length) → M 143 20 = I i → Chn T i es → (∀ j, j < 366 → rv (M 147) s0) → (∀ e ∈ es, enOk e) → ((bkS es S).2 ≠ 0 → ∀ M1, rv (M1 144) s0 → scR M1 → (∀ i, i ≠ 143 → i ≠ 144 → (i < 148 ∨ 151 < i) → M1 i = M i) → (∀ j, j < 10 ∨ (16 < j ∧ j < 20) → M1 143 j = M 143 j) → Q (I (bkS es S).2) M1) → ((bkS es S).2 = 0 → ∀ M1, rv (M1 144) ((bkS es S).1, W) → scR M1 → (∀ i, i ≠ 143 → i ≠ 144 → (i < 148 ∨ 151 < i) → M1 i = M i) → (∀ j, j < 10 ∨ (16 < j ∧ j < 20) → M1 143 j = M 143 j) → wp (kx M1) Q) → wp (d_X9_bookAll_L30 (I N) kx n (I q) M) Q
  | [], n + 1, q, i, S, M, hn, hq, hi, hr, hsc, ht, h60, hil, hat, hch, hsp, hok, k1, k2 => by
    rw [sd_X9_bookAll_L30]
    unfold d_X9_bookAll_L30_body
    rw [if_pos (by rw [I_le (by unfold sm; omega) (by unfold sm; omega)]; rw [List.length_nil] at hq; omega)]
    exact k2 rfl M hr hsc (fun _ _ _ _ => rfl) (fun _ _ => rfl)
  | e :: es, n + 1, q, i, S, M, hn, hq, hi, hr, hsc, ht, h60, hil, hat, hch, hsp, hok, k1, k2 => by
    rw [List.length_cons] at hn hq
    have he := hok e List.mem_cons_self
    unfold enOk at he
    have hb := errS_b S e.1 e.2.1 e.2.2
    obtain ⟨ch1, ch2⟩ := hch
    have hen := ent_b ch1
    rw [sd_X9_bookAll_L30]
    unfold d_X9_bookAll_L30_body
    simp only [lit_, neg_I]
    rw [if_neg (by rw [I_le (by unfold sm; omega) (by unfold sm; omega)]; omega), wq_bd]
    refine wp_mono (rtb_spec (T := T) (i := i) ⟨ht, hat, h60, hil (by simp)⟩) (fun r M6 z => ?_)
    obtain ⟨-, z2, z3, z4⟩ := z
    obtain ⟨v1, v2, v3⟩ := z3 e ch1
    rw [wq_bnd, z2.2.1, I_add, I_succ]
    generalize hM8 : mup M6 143 20 (I ((entS T i).1 + 1 : Nat)) = M8
    have hf8 : rtf M M8 := by rw [← hM8]; exact rtf_t z4 (rtf_u _ (by omega))
    have w1 : M8 143 22 = I e.1 := by rw [← hM8, mup_s, upd_n (by decide)]; exact v1
    have w2 : M8 143 23 = I e.2.1 := by rw [← hM8, mup_s, upd_n (by decide)]; exact v2
    have w3 : M8 143 21 = I e.2.2 := by rw [← hM8, mup_s, upd_n (by decide)]; exact v3
    have w20 : M8 143 20 = I ((entS T i).1 + 1 : Nat) := by rw [← hM8, mup_s, upd_s]
    have hr8 : rv (M8 144) (S, W) := by rw [hf8.1 144 (by decide)]; exact hr
    have hsc8 : scR M8 := scR_congr hsc (fun j h1 h2 => hf8.2 j (by omega))
    rw [w1, w2, w3, wq_bd]
    refine wp_mono (rerr_spec hi (a := e.1) (r := e.2.1) (st := e.2.2) (by omega) (by omega) (by omega) hr8 hsc8) (fun r M9 u => ?_)
    obtain ⟨u1, u2, u3⟩ := u
    have g9 : ∀ i, i ≠ 143 → i ≠ 144 → (i < 148 ∨ 151 < i) → M9 i = M i := fun i a b c => (u3.1 i a c).trans (hf8.1 i a)
    have s9 : ∀ j, j < 10 ∨ (16 < j ∧ j < 20) → M9 143 j = M 143 j := fun j hj => (u3.2 j (by omega)).trans (hf8.2 j (by omega))
    have hr9 := rqf_v u3 hr8
    rw [u1]
    unfold bkS at k1 k2
    by_cases c : errS S e.1 e.2.1 e.2.2 = 0
    · rw [if_pos c] at k1 k2
      obtain ⟨c1, c2, c3, c4⟩ := errS_0 hi c
      refine wif_t c ?_
      rw [u3.2 22 (by decide), u3.2 23 (by decide), u3.2 21 (by decide), w1, w2, w3, wq_bd]
      refine wp_mono (adds_spec hr9 hi c4 e.1 e.2.1 e.2.2) (fun r M11 y => ?_)
      obtain ⟨-, y2, y3⟩ := y
      have g11 : ∀ i, i ≠ 143 → i ≠ 144 → (i < 148 ∨ 151 < i) → M11 i = M i := fun i a b c => (y3 i b).trans (g9 i a b c)
      have s11 : ∀ j, j < 10 ∨ (16 < j ∧ j < 20) → M11 143 j = M 143 j := fun j hj => by rw [y3 143 (by decide)]; exact s9 j hj
      rw [wq_bnd, I_add, I_succ]
      have ht11 : txR M11 T := txR_congr ht (s11 18 (by decide)) (g11 153 (by decide) (by decide) (by decide))
      have h20 : M11 143 20 = I ((entS T i).1 + 1 : Nat) := by rw [y3 143 (by decide), u3.2 20 (by decide)]; exact w20
      refine rbk_L h0 hN es n (q + 1) ((entS T i).1 + 1) _ M11 (by omega) (by omega) (SI_add hi c4 c1 c2 c3) y2 (scR_congr u2 (fun j h1 h2 => by rw [y3 143 (by decide)])) ht11 h60 (fun hne => ?_) h20 ch2 (fun j hj => by rw [g11 147 (by decide) (by decide) (by decide)]; exact hsp j hj) (fun x hx => hok x (List.mem_cons_of_mem _ hx)) (fun hne M1 q1 q2 q3 q4 => k1 hne M1 q1 q2 (fun i a b c => (q3 i a b c).trans (g11 i a b c)) (fun j hj => (q4 j hj).trans (s11 j hj))) (fun heq M1 q1 q2 q3 q4 => k2 heq M1 q1 q2 (fun i a b c => (q3 i a b c).trans (g11 i a b c)) (fun j hj => (q4 j hj).trans (s11 j hj)))
      cases es with
      | nil => exact absurd rfl hne
      | cons e2 es =>
        have := ent_b ch2.1
        omega
    · rw [if_neg c] at k1 k2
      refine wif_f (by omega) (by omega) c ?_
      rw [comes_e, bd_some, wq_some]
      refine k1 c _ ?_ (scR_congr u2 (fun j h1 h2 => by rw [mset_n (by decide)])) (fun i a b c => by rw [mset_n b]; exact g9 i a b c) (fun j hj => by rw [mset_n (by decide)]; exact s9 j hj)
      rw [mset_s]
      refine rv_congr h0 (hsp 0 (by decide)) (fun i hi => ?_)
      rw [if_pos (by omega), g9 147 (by decide) (by decide) (by decide)]
  | _, 0, _, _, _, _, hn, _, _, _, _, _, _, _, _, _, _, _, _, _ => absurd hn (by omega)
theorem par_l {T : List Int32} : ∀ (d i : Nat), i ≤ T.length → (parS T d i).1 ≤ T.length
  | 0, i, h => h
  | d + 1, i, h => by
    cases he : (entS T i).2 with
    | none =>
      have eP : parS T (d + 1) i = ((entS T i).1, none) := by
        show (match (entS T i).2 with | none => ((entS T i).1, none) | some e => _) = _
        rw [he]
      rw [eP]
      exact ent_f h he
    | some e =>
      have hb := ent_b he
      have eP : parS T (d + 1) i = if (entS T i).1 = T.length then ((entS T i).1, some [e]) else if ccT T (entS T i).1 = 44 then ((parS T d ((entS T i).1 + 1)).1, (parS T d ((entS T i).1 + 1)).2.map (fun es => e :: es)) else ((entS T i).1, none) := by
        show (match (entS T i).2 with | none => ((entS T i).1, none) | some e => _) = _
        rw [he]
      rw [eP]
      split
      · exact hb.2.1
      · split
        · exact par_l d _ (by omega)
        · exact hb.2.1
theorem b_bookAll : Both d_X8_bookAll d_X9_bookAll := by
  intro A hA
  obtain ⟨⟨S, W⟩, l, o, T⟩ := A
  obtain ⟨a1, a2, a3, a4, a5⟩ := id hA
  dsimp only at a1 a2 a3 a4 a5
  have hi : SInv (S, W) := a1
  have hl := (si_n hi).2.2.2.2.2.2
  have hpl := par_l (T := T) 10 0 (Nat.zero_le _)
  -- the class, read
  have cls : ∀ (Q : Int32 → Mem → Prop) M, CSt M ((S, W), l, o, T) → ((parS T 10 0).2 = none → ∀ M1, CSt M1 ((S, W), l, o, T) → Q (I (-100 - (parS T 10 0).1)) M1) → (∀ es, (parS T 10 0).2 = some es → ∀ M1, CSt M1 ((S, W), l, o, T) → enM M1 0 es → M1 136 2 = I es.length → wp (bd (d_X5_copyFrom 1 0 M1) fun r4 M3 => d_X8_bookAll_L31 (fun M12 => bd (d_X2_push 1 M12) fun r14 M13 => some (M13 136 2, M13)) fuelN 0 M3) Q) → wp (d_X8_bookAll M) Q := by
    intro Q M h k1 k2
    unfold d_X8_bookAll
    rw [wq_bd]
    refine wp_mono (read_spec (T := T) h.2.2.2 a4 a5) (fun r M1 z => ?_)
    obtain ⟨z1, z2, z3⟩ := z
    have hC1 : CSt M1 ((S, W), l, o, T) := ⟨cv_congr h.1 (fun j hj => z3.1 _ (by unfold sI; omega) (by unfold sI; omega)), CHist_congr h.2.1 (fun i hi => z3.1 i (by omega) (by omega)), snC_congr h.2.2.1 (fun i hi => z3.1 i (by omega) (by omega)), ⟨by rw [z3.2 1 (by decide) (by decide)]; exact h.2.2.2.1, fun j c hj => by rw [z3.1 137 (by decide) (by decide)]; exact h.2.2.2.2 j c hj⟩⟩
    cases hp : (parS T 10 0).2 with
    | none =>
      rw [z1 hp, show (-1 : Int32) = I (-1) from rfl]
      refine wif_f (by omega) (by omega) (by omega) ?_
      rw [wq_some, show (-100 : Int32) = I (-100) from rfl, I_sub]
      exact k1 hp M1 hC1
    | some es =>
      obtain ⟨y1, y2, y3⟩ := z2 es hp
      rw [y1, if_pos (show I (-1) = (-1 : Int32) from rfl)]
      exact k2 es hp M1 hC1 y2 y3
  -- the reference, read
  have ref : ∀ (Q : Int32 → Mem → Prop) M, RSt M ((S, W), l, o, T) → ((parS T 10 0).2 = none → ∀ M1, RSt M1 ((S, W), l, o, T) → Q (I (-100 - (parS T 10 0).1)) M1) → (∀ es, (parS T 10 0).2 = some es → ∀ M1, RSt M1 ((S, W), l, o, T) → (∀ j, j < 366 → rv (M1 147) (S, W)) → M1 143 20 = I ((0 : Nat) : Int) → wp (d_X9_bookAll_L30 (I es.length) (fun M16 => bd (d_X9_trades M16) fun r18 M17 => bd (d_X9_record M17) fun r20 M19 => bd (d_X9_trades M19) fun r22 M21 => some (I es.length, M21)) fuelN (I ((0 : Nat) : Int)) M1) Q) → wp (d_X9_bookAll M) Q := by
    intro Q M h k1 k2
    unfold d_X9_bookAll d_X9_bookingsOfText
    rw [wq_bd, wq_bnd, show (0 : Int32) = I ((0 : Nat) : Int) from rfl]
    have hf0 : rtf M (mup M 143 20 (I ((0 : Nat) : Int))) := rtf_u _ (by omega)
    have t0 : TR (mup M 143 20 (I ((0 : Nat) : Int))) T 0 := ⟨txR_congr h.2.2.2.1 (hf0.2 18 (by decide)) (hf0.1 153 (by decide)), by rw [mup_s, upd_s], a4, Nat.zero_le _⟩
    refine wp_mono (bot_L (T := T) 10 fuelN 0 0 _ (by omega) (by unfold fuelN; omega) (by omega) t0 (by omega)) (fun r M1 z => ?_)
    obtain ⟨z1, z2, z3⟩ := z
    have hf := rtf_t hf0 z3
    have hR1 : RSt M1 ((S, W), l, o, T) := RSt_fr h (fun i hi => hf.1 i (by omega)) (fun j hj => hf.2 j (by omega))
    cases hp : (parS T 10 0).2 with
    | none =>
      obtain ⟨y1, y2⟩ := z1 hp
      rw [y1, if_pos (show I (-5) = (-5 : Int32) from rfl), wq_some, y2, show (-100 : Int32) = I (-100) from rfl, I_sub]
      exact k1 hp M1 hR1
    | some es =>
      obtain ⟨c1, c2, c3, c4⟩ := par_c 10 0 es hp
      have y1 := z2 es hp
      rw [Nat.zero_add] at y1
      rw [y1, show (-5 : Int32) = I (-5) from rfl]
      refine wif_f (by omega) (by omega) (by omega) ?_
      rw [goes_e, bd_some, wq_bnd]
      have hR2 : RSt (mup (mset M1 147 (fun j => if 0 ≤ j ∧ j < 366 then M1 144 j else M1 147 j)) 143 20 (I ((0 : Nat) : Int))) ((S, W), l, o, T) := RSt_fr hR1 (fun i hi => by rw [mup_n (by omega), mset_n (by omega)]) (fun j hj => by rw [mup_s, upd_n (by omega), mset_n (by decide)])
      refine k2 es hp _ hR2 (fun _ _ => ?_) (by rw [mup_s, upd_s])
      rw [mup_n (by decide), mset_s]
      exact rv_congr hl hR1.1 (fun i hi => by rw [if_pos (by omega)])
  cases hp : (parS T 10 0).2 with
  | none => exact ⟨I (-100 - (parS T 10 0).1), ((S, W), l, o, T), hA, fun M h => cls _ M h (fun _ M1 hC => ⟨rfl, hC⟩) (fun es he => absurd (he.symm.trans hp) (by simp)), fun M h => ref _ M h (fun _ M1 hR => ⟨rfl, hR⟩) (fun es he => absurd (he.symm.trans hp) (by simp))⟩
  | some es =>
    obtain ⟨c1, c2, c3, c4⟩ := par_c 10 0 es hp
    have hno : ∀ {P : Prop}, (parS T 10 0).2 = none → P := fun h => absurd (h.symm.trans hp) (by simp)
    have hes : ∀ {es'}, (parS T 10 0).2 = some es' → es' = es := fun h => Option.some.inj (h.symm.trans hp)
    have hbb := bk_b es S
    have hiB := bk_SI es S W hi
    -- the class's run over the entries
    have clsR : ∀ (Q : Int32 → Mem → Prop) M, CSt M ((S, W), l, o, T) → ((bkS es S).2 ≠ 0 → ∀ M1, CSt M1 ((S, W), l, o, T) → Q (I (bkS es S).2) M1) → ((bkS es S).2 = 0 → ∀ M1, CSt M1 (((bkS es S).1, W), pushH l (S, W), o, T) → Q (I es.length) M1) → wp (d_X8_bookAll M) Q := by
      intro Q M h k1 k2
      refine cls Q M h (fun hh => hno hh) (fun es' he M1 hC hen h2 => ?_)
      have := hes he
      subst this
      rw [wq_bd]
      refine wp_mono (copy_cv (k := 1) (q := 0) (by decide) hl hC.1) (fun r M2 u => ?_)
      obtain ⟨-, u2, u3⟩ := u
      have hC2 : CSt M2 ((S, W), l, o, T) := CSt_fr hC (fun i hi => u3 i (by omega))
      rw [show (0 : Int32) = I ((0 : Nat) : Int) from rfl]
      refine cbk_L (W := W) (s0 := (S, W)) hl es' fuelN 0 S M2 (by unfold fuelN; omega) (by omega) hi hC2.1 u2 (fun k e hk => by rw [u3 138 (by omega), u3 139 (by omega), u3 140 (by omega)]; exact hen k e hk) (by rw [u3 136 (by omega), h2, Nat.zero_add]) c4 (fun hne M3 y1 y2 => ?_) (fun heq M3 y1 y2 => ?_)
      · exact k1 hne M3 (CSt_upd hC2 y1 (CHist_congr hC2.2.1 (fun i hi => y2 i (by omega))) (fun i hi => y2 i (by omega)))
      · have hC3 : CSt M3 (((bkS es' S).1, W), l, o, T) := CSt_upd hC2 y1 (CHist_congr hC2.2.1 (fun i hi => y2 i (by omega))) (fun i hi => y2 i (by omega))
        rw [wq_bd]
        refine wp_mono (push_spec (k := 1) (s := (S, W)) (by decide) hC3.2.1 hl (cv_congr u2 (fun j hj => y2 _ (by unfold sI; omega)))) (fun r M4 q => ?_)
        rw [wq_some, q.2 136 (by omega), y2 136 (by omega), u3 136 (by omega), h2]
        exact k2 heq M4 (CSt_upd hC3 (cv_congr hC3.1 (fun j hj => q.2 _ (by unfold sI; omega))) q.1 (fun i hi => q.2 i (by omega)))
    have refR : ∀ (Q : Int32 → Mem → Prop) M, RSt M ((S, W), l, o, T) → ((bkS es S).2 ≠ 0 → ∀ M1, RSt M1 ((S, W), l, o, T) → Q (I (bkS es S).2) M1) → ((bkS es S).2 = 0 → ∀ M1, RSt M1 (((bkS es S).1, W), pushH l (S, W), o, T) → Q (I es.length) M1) → wp (d_X9_bookAll M) Q := by
      intro Q M h k1 k2
      refine ref Q M h (fun hh => hno hh) (fun es' he M1 hR hsp hat => ?_)
      have := hes he
      subst this
      refine rbk_L (W := W) (T := T) (s0 := (S, W)) hl (N := es'.length) c3 es' fuelN 0 0 S M1 (by unfold fuelN; omega) (Nat.zero_add _) hi hR.1 hR.2.2.2.2 hR.2.2.2.1 a4 (fun _ => Nat.zero_le _) hat c1 hsp c4 (fun hne M3 y1 y2 y3 y4 => ?_) (fun heq M3 y1 y2 y3 y4 => ?_)
      · exact k1 hne M3 ⟨y1, RHist_congr hR.2.1 (y4 2 (by decide)) (y3 145 (by decide) (by decide) (by decide)), snR_congr hR.2.2.1 (y4 4 (by decide)) (y3 146 (by decide) (by decide) (by decide)), txR_congr hR.2.2.2.1 (y4 18 (by decide)) (y3 153 (by decide) (by decide) (by decide)), y2⟩
      · have hR3 : RSt M3 (((bkS es' S).1, W), l, o, T) := ⟨y1, RHist_congr hR.2.1 (y4 2 (by decide)) (y3 145 (by decide) (by decide) (by decide)), snR_congr hR.2.2.1 (y4 4 (by decide)) (y3 146 (by decide) (by decide) (by decide)), txR_congr hR.2.2.2.1 (y4 18 (by decide)) (y3 153 (by decide) (by decide) (by decide)), y2⟩
        rw [trades_e, bd_some]
        generalize hM17 : mset (mset M3 144 (fun j => if 0 ≤ j ∧ j < 366 then M3 147 j else M3 144 j)) 147 (fun j => if 0 ≤ j ∧ j < 366 then M3 144 j else M3 147 j) = M17
        have f17 : ∀ i, i ≠ 144 → i ≠ 147 → M17 i = M3 i := fun i a b => by rw [← hM17, mset_n b, mset_n a]
        have e144 : ∀ j, j < 366 → M17 144 j = M3 147 j := fun j hj => by rw [← hM17, mset_n (by decide), mset_s, if_pos (by omega)]
        have e147 : ∀ j, j < 366 → M17 147 j = M3 144 j := fun j hj => by rw [← hM17, mset_s, if_pos (by omega)]
        have hv : rv (M17 144) (S, W) := rv_congr hl (hsp 0 (by decide)) (fun j hj => by rw [e144 j hj, y3 147 (by decide) (by decide) (by decide)])
        have hR17 : RSt M17 ((S, W), l, o, T) := RSt_upd hR3 hv (RHist_congr hR3.2.1 (by rw [f17 143 (by decide) (by decide)]) (f17 145 (by decide) (by decide))) (fun j hj => by rw [f17 143 (by decide) (by decide)]) (f17 146 (by decide) (by decide)) (f17 153 (by decide) (by decide))
        rw [wq_bd]
        refine rpush hA hR17 (fun x M19 v v0 => ?_)
        rw [trades_e, bd_some, wq_some]
        refine k2 heq _ (RSt_upd v ?_ (RHist_congr v.2.1 ?_ ?_) (fun j hj => ?_) ?_ ?_)
        · rw [mset_n (by decide), mset_s]
          refine rv_congr hl y1 (fun j hj => ?_)
          rw [if_pos (by omega), v0 147 (by decide) (by decide), e147 j hj]
        · rw [mset_n (by decide), mset_n (by decide)]
        · rw [mset_n (by decide), mset_n (by decide)]
        · rw [mset_n (by decide), mset_n (by decide)]
        · rw [mset_n (by decide), mset_n (by decide)]
        · rw [mset_n (by decide), mset_n (by decide)]
    by_cases c : (bkS es S).2 = 0
    · exact ⟨I es.length, (((bkS es S).1, W), pushH l (S, W), o, T), AInv_push hA hiB, fun M h => clsR _ M h (fun hne _ _ => absurd c hne) (fun _ M1 hC => ⟨rfl, hC⟩), fun M h => refR _ M h (fun hne _ _ => absurd c hne) (fun _ M1 hR => ⟨rfl, hR⟩)⟩
    · exact ⟨I (bkS es S).2, ((S, W), l, o, T), hA, fun M h => clsR _ M h (fun _ M1 hC => ⟨rfl, hC⟩) (fun heq _ _ => absurd heq c), fun M h => refR _ M h (fun _ M1 hR => ⟨rfl, hR⟩) (fun heq _ _ => absurd heq c)⟩
/-! the law: one call on both sides, and the start -/
theorem rs_of {M M1 : Mem} {A : Ab} (h : RSt M A) (e : ∀ i, PC i → M1 i = M i) : RSt M1 A := RSt_fr h (fun i hi => e i (show 143 ≤ i by omega)) (fun j hj => by rw [e 143 (show 143 ≤ 143 by decide)])
theorem cs_of {M M1 : Mem} {A : Ab} (h : CSt M A) (e : ∀ i, PR i → M1 i = M i) : CSt M1 A := CSt_fr h (fun i hi => e i (show i < 143 by omega))
theorem bstep {oc orr : Mem → Ans} (hB : Both oc orr) {A : Ab} (hA : AInv A) {M : Mem} (hC : CSt M A) (hR : RSt M A) (hfc : Fr PC M (oc M)) (hfr : ∀ M1, Fr PR M1 (orr M1)) {K : Int32 → Int32 → Mem → Ans} {Q : Int32 → Mem → Prop} (k : ∀ r A' M3, AInv A' → CSt M3 A' → RSt M3 A' → wp (K r r M3) Q) : wp (bd (oc M) fun r M1 => bd (orr M1) fun r' M3 => K r r' M3) Q := by
  obtain ⟨r, A', hA', h1, h2⟩ := hB A hA
  obtain ⟨r1, M1, e1, q1, q2⟩ := h1 M hC
  have hR1 : RSt M1 A := rs_of hR (hfc.1 r1 M1 e1)
  obtain ⟨r2, M3, e2, q3, q4⟩ := h2 M1 hR1
  rw [e1, bd_some, e2, bd_some, q1, q3]
  exact k r A' M3 hA' (cs_of q2 ((hfr M1).1 r2 M3 e2)) q4
theorem bstep2 {oc orr : Mem → Ans} (hB : Both2 oc orr) {A : Ab} (hA : AInv A) {M : Mem} (hC : CSt M A) (hR : RSt M A) (hfc : Fr PC M (oc M)) (hfr : ∀ M1, Fr PR M1 (orr M1)) {K : Int32 → Int32 → Mem → Ans} {Q : Int32 → Mem → Prop} (k : ∀ r r' A' M3, AInv A' → CSt M3 A' → RSt M3 A' → wp (K r r' M3) Q) : wp (bd (oc M) fun r M1 => bd (orr M1) fun r' M3 => K r r' M3) Q := by
  obtain ⟨A', hA', h1, h2⟩ := hB A hA
  obtain ⟨r1, M1, e1, q2⟩ := h1 M hC
  have hR1 : RSt M1 A := rs_of hR (hfc.1 r1 M1 e1)
  obtain ⟨r2, M3, e2, q4⟩ := h2 M1 hR1
  rw [e1, bd_some, e2, bd_some]
  exact k r1 r2 A' M3 hA' (cs_of q2 ((hfr M1).1 r2 M3 e2)) q4
def S00 (i : Nat) : Int := if i = 1 then 900 else if i = 2 then 1500 else if i = 3 then 20 else 0
theorem S00_n {i : Nat} (h : i = 0 ∨ 4 ≤ i) : S00 i = 0 := by
  unfold S00
  rw [if_neg (by omega), if_neg (by omega), if_neg (by omega)]
def A00 : Ab := ((S00, []), [], none, [])
theorem A00_i : AInv A00 := by
  refine ⟨⟨?_, ?_, ?_, ?_, ?_, ?_, ?_, fun r hr => ?_, fun b hb => ?_, fun w hw => (by cases hw)⟩, fun q hq => (by cases hq), fun q hq => (by cases hq), by decide, fun c hc => (by cases hc)⟩
  · decide
  · decide
  · decide
  · decide
  · decide
  · decide
  · decide
  · have : (r : Int) < 0 := hr
    omega
  · have : (b : Int) < 0 := hb
    omega
theorem M0_z {i j : Nat} (h1 : i ≠ 144) (h2 : i ≠ 135) (h3 : i ≠ 143) (h4 : ¬ (i < 112 ∧ i % 16 = 0)) : M0 i j = 0 := by
  unfold M0
  rw [if_neg h1, if_neg h2, if_neg h3, if_neg h4]
theorem C00 : CSt M0 A00 := by
  refine ⟨⟨⟨rfl, rfl, rfl, rfl, rfl, rfl, rfl⟩, ⟨rfl, rfl, rfl⟩, fun r hr => ?_, fun b hb => ?_, fun p w hp => ?_⟩, ⟨rfl, by decide, fun j => 3 + j, fun j hj => ⟨rfl, show 3 ≤ 3 + j by omega, show 3 + j < 7 by omega⟩, fun i j _ _ h => by have : 3 + i = 3 + j := h; omega, fun j s hj => ?_⟩, ?_, rfl, fun j c hc => ?_⟩
  · show M0 (sI 0 2) r = I (S00 (10 + 4 * r)) ∧ M0 (sI 0 3) r = I (S00 (11 + 4 * r)) ∧ M0 (sI 0 4) r = I (S00 (12 + 4 * r)) ∧ M0 (sI 0 5) r = I (S00 (13 + 4 * r))
    rw [S00_n (by omega), S00_n (by omega), S00_n (by omega), S00_n (by omega)]
    exact ⟨rfl, rfl, rfl, rfl⟩
  · show M0 (sI 0 7) b = I (S00 (42 + 5 * b)) ∧ M0 (sI 0 8) b = I (S00 (43 + 5 * b)) ∧ M0 (sI 0 9) b = I (S00 (44 + 5 * b)) ∧ M0 (sI 0 10) b = I (S00 (45 + 5 * b)) ∧ M0 (sI 0 11) b = I (S00 (46 + 5 * b))
    rw [S00_n (by omega), S00_n (by omega), S00_n (by omega), S00_n (by omega), S00_n (by omega)]
    exact ⟨rfl, rfl, rfl, rfl, rfl⟩
  · exact absurd hp (by simp [A00])
  · exact absurd hj (by simp [A00])
  · show M0 141 3 = I 0
    rfl
  · exact absurd hc (by simp [A00])
theorem R00 : RSt M0 A00 := by
  refine ⟨⟨fun i hi h6 => ?_, rfl, fun p w hp => ?_⟩, ⟨rfl, by decide, fun j s hj => ?_⟩, ?_, ⟨rfl, fun j c hc => ?_⟩, ⟨rfl, rfl, rfl⟩⟩
  · show upd (upd (upd (fun _ => 0) 1 900) 2 1500) 3 20 i = I (S00 i)
    unfold S00 upd
    by_cases c3 : i = 3
    · subst c3; rfl
    · rw [if_neg c3]
      by_cases c2 : i = 2
      · subst c2; rfl
      · rw [if_neg c2]
        by_cases c1 : i = 1
        · subst c1; rfl
        · rw [if_neg c1, if_neg c1, if_neg c2, if_neg c3]; rfl
  · exact absurd hp (by simp [A00])
  · exact absurd hj (by simp [A00])
  · show M0 143 4 = I 0
    rfl
  · exact absurd hc (by simp [A00])
