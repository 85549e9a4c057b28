/-! the law of this claim: every script of at most 2560 ints ends in 1 -/
set_option maxRecDepth 20000 in
set_option maxHeartbeats 4000000 in
theorem law_L {xs : Nat → Int32} {L : Nat} (hL : L ≤ 2560) : ∀ (d n i : Nat) (M : Mem) (A : Ab), L < i + 5 * d + 5 → d < n → i ≤ L + 5 → AInv A → CSt M A → RSt M A → wp (d_L_law_L18 xs L (fun M132 => (some ((1 : Int32), M132))) n (I i) M) (fun r _ => r = 1)
  | d, n + 1, i, M, A, hd, hn, hi, hA, hC, hR => by
    rw [sd_L_law_L18]
    unfold d_L_law_L18_body
    have eL : Int32.ofNat L - (5 : Int32) = I ((L : Int) - 5) := by
      rw [show Int32.ofNat L = I (L : Int) from rfl, show (5 : Int32) = I 5 from rfl, I_sub]
    rw [eL]
    by_cases c : (L : Int) - 5 < i
    · rw [if_pos (by rw [I_lt (by unfold sm; omega) (by unfold sm; omega)]; exact c), wq_some]
    · rw [if_neg (by rw [I_lt (by unfold sm; omega) (by unfold sm; omega)]; exact c)]
      have c0 : ∀ Y, chk (I (i : Int)) L Y = Y := fun Y => chk_I (by omega) (by omega) (by omega)
      have c1 : ∀ Y, chk (I (i : Int) + (1 : Int32)) L Y = Y := fun Y => by rw [show (1 : Int32) = I 1 from rfl, I_add]; exact chk_I (by omega) (by omega) (by omega)
      have c2 : ∀ Y, chk (I (i : Int) + (2 : Int32)) L Y = Y := fun Y => by rw [show (2 : Int32) = I 2 from rfl, I_add]; exact chk_I (by omega) (by omega) (by omega)
      have c3 : ∀ Y, chk (I (i : Int) + (3 : Int32)) L Y = Y := fun Y => by rw [show (3 : Int32) = I 3 from rfl, I_add]; exact chk_I (by omega) (by omega) (by omega)
      have c4 : ∀ Y, chk (I (i : Int) + (4 : Int32)) L Y = Y := fun Y => by rw [show (4 : Int32) = I 4 from rfl, I_add]; exact chk_I (by omega) (by omega) (by omega)
      simp only [c0, c1, c2, c3, c4]
      obtain ⟨d, rfl⟩ : ∃ d' : Nat, d = d' + 1 := ⟨d - 1, by omega⟩
      have nx : ∀ (M3 : Mem) (A' : Ab), AInv A' → CSt M3 A' → RSt M3 A' → wp (d_L_law_L18 xs L (fun M132 => (some ((1 : Int32), M132))) n (I (i + 5 : Nat)) M3) (fun r _ => r = 1) := fun M3 A' h1 h2 h3 => law_L hL d n (i + 5) M3 A' (by omega) (by omega) (by omega) h1 h2 h3
      have n5 : I (i : Int) + (5 : Int32) = I (i + 5 : Nat) := by
        rw [show (5 : Int32) = I 5 from rfl, I_add]
        congr 1

      have j_d_L_law_B862 : ∀ (M3 : Mem) (A' : Ab), AInv A' → CSt M3 A' → RSt M3 A' → wp (d_L_law_B862 xs L (fun M132 => (some ((1 : Int32), M132))) (d_L_law_L18 xs L (fun M132 => (some ((1 : Int32), M132))) n) (I (i : Int)) M3) (fun r _ => r = 1) := fun M3 A' h1 h2 h3 => by
        unfold d_L_law_B862
        rw [wq_bnd, n5]
        exact nx M3 A' h1 h2 h3

      refine wp_ite (fun _ => bstep (b_addRecipe _ _ _ _) hA hC hR (frd_X8_addRecipe _ _ _ _ _) (fun M1 => frd_X9_addRecipe _ _ _ _ M1) (fun r A' M3 h1 h2 h3 => j_d_L_law_B862 M3 A' h1 h2 h3)) (fun _ => ?_)
      refine wp_ite (fun _ => bstep (b_setHeat _) hA hC hR (frd_X8_setHeat _ _) (fun M1 => frd_X9_setHeat _ M1) (fun r A' M3 h1 h2 h3 => j_d_L_law_B862 M3 A' h1 h2 h3)) (fun _ => ?_)
      refine wp_ite (fun _ => bstep (b_setMost _) hA hC hR (frd_X8_setMost _ _) (fun M1 => frd_X9_setMost _ M1) (fun r A' M3 h1 h2 h3 => j_d_L_law_B862 M3 A' h1 h2 h3)) (fun _ => ?_)
      refine wp_ite (fun _ => bstep (b_fall _) hA hC hR (frd_X8_fall _ _) (fun M1 => frd_X9_fall _ M1) (fun r A' M3 h1 h2 h3 => j_d_L_law_B862 M3 A' h1 h2 h3)) (fun _ => ?_)
      refine wp_ite (fun _ => bstep (b_book _ _ _) hA hC hR (frd_X8_book _ _ _ _) (fun M1 => frd_X9_book _ _ _ M1) (fun r A' M3 h1 h2 h3 => j_d_L_law_B862 M3 A' h1 h2 h3)) (fun _ => ?_)
      refine wp_ite (fun _ => bstep (b_cancel _) hA hC hR (frd_X8_cancel _ _) (fun M1 => frd_X9_cancel _ M1) (fun r A' M3 h1 h2 h3 => j_d_L_law_B862 M3 A' h1 h2 h3)) (fun _ => ?_)
      refine wp_ite (fun _ => bstep2 (b_move _ _) hA hC hR (frd_X8_move _ _ _) (fun M1 => frd_X9_move _ _ M1) (fun r r' A' M3 h1 h2 h3 => j_d_L_law_B862 M3 A' h1 h2 h3)) (fun _ => ?_)
      refine wp_ite (fun _ => bstep (b_repair) hA hC hR (frd_X8_repair _) (fun M1 => frd_X9_repair M1) (fun r A' M3 h1 h2 h3 => j_d_L_law_B862 M3 A' h1 h2 h3)) (fun _ => ?_)
      refine wp_ite (fun _ => bstep (b_wish _ _ _) hA hC hR (frd_X8_wish _ _ _ _) (fun M1 => frd_X9_wish _ _ _ M1) (fun r A' M3 h1 h2 h3 => j_d_L_law_B862 M3 A' h1 h2 h3)) (fun _ => ?_)
      refine wp_ite (fun _ => bstep (b_unwish _) hA hC hR (frd_X8_unwish _ _) (fun M1 => frd_X9_unwish _ M1) (fun r A' M3 h1 h2 h3 => j_d_L_law_B862 M3 A' h1 h2 h3)) (fun _ => ?_)
      refine wp_ite (fun _ => bstep (b_pass _) hA hC hR (frd_X8_pass _ _) (fun M1 => frd_X9_pass _ M1) (fun r A' M3 h1 h2 h3 => j_d_L_law_B862 M3 A' h1 h2 h3)) (fun _ => ?_)
      refine wp_ite (fun _ => bstep (b_type _) hA hC hR (frd_X8_type _ _) (fun M1 => frd_X9_type _ M1) (fun r A' M3 h1 h2 h3 => j_d_L_law_B862 M3 A' h1 h2 h3)) (fun _ => ?_)
      refine wp_ite (fun _ => bstep (b_clearText) hA hC hR (frd_X8_clearText _) (fun M1 => frd_X9_clearText M1) (fun r A' M3 h1 h2 h3 => j_d_L_law_B862 M3 A' h1 h2 h3)) (fun _ => ?_)
      refine wp_ite (fun _ => bstep (b_bookAll) hA hC hR (frd_X8_bookAll _) (fun M1 => frd_X9_bookAll M1) (fun r A' M3 h1 h2 h3 => j_d_L_law_B862 M3 A' h1 h2 h3)) (fun _ => ?_)
      refine wp_ite (fun _ => bstep (b_undo) hA hC hR (frd_X8_undo _) (fun M1 => frd_X9_undo M1) (fun r A' M3 h1 h2 h3 => j_d_L_law_B862 M3 A' h1 h2 h3)) (fun _ => ?_)
      refine wp_ite (fun _ => bstep (b_keep) hA hC hR (frd_X8_keep _) (fun M1 => frd_X9_keep M1) (fun r A' M3 h1 h2 h3 => j_d_L_law_B862 M3 A' h1 h2 h3)) (fun _ => ?_)
      refine wp_ite (fun _ => bstep (b_restore) hA hC hR (frd_X8_restore _) (fun M1 => frd_X9_restore M1) (fun r A' M3 h1 h2 h3 => j_d_L_law_B862 M3 A' h1 h2 h3)) (fun _ => ?_)
      refine wp_ite (fun _ => bstep (b_recipe _ _) hA hC hR (frd_X8_recipe _ _ _) (fun M1 => frd_X9_recipe _ _ M1) (fun r A' M3 h1 h2 h3 => j_d_L_law_B862 M3 A' h1 h2 h3)) (fun _ => ?_)
      refine wp_ite (fun _ => bstep (b_robot _ _) hA hC hR (frd_X8_robot _ _ _) (fun M1 => frd_X9_robot _ _ M1) (fun r A' M3 h1 h2 h3 => j_d_L_law_B862 M3 A' h1 h2 h3)) (fun _ => ?_)
      refine wp_ite (fun _ => bstep (b_booking _ _) hA hC hR (frd_X8_booking _ _ _) (fun M1 => frd_X9_booking _ _ M1) (fun r A' M3 h1 h2 h3 => j_d_L_law_B862 M3 A' h1 h2 h3)) (fun _ => ?_)
      refine wp_ite (fun _ => bstep (b_wishTold _ _) hA hC hR (frd_X8_wishTold _ _ _) (fun M1 => frd_X9_wishTold _ _ M1) (fun r A' M3 h1 h2 h3 => j_d_L_law_B862 M3 A' h1 h2 h3)) (fun _ => ?_)
      refine wp_ite (fun _ => bstep (b_pressureIn _) hA hC hR (frd_X8_pressureIn _ _) (fun M1 => frd_X9_pressureIn _ M1) (fun r A' M3 h1 h2 h3 => j_d_L_law_B862 M3 A' h1 h2 h3)) (fun _ => ?_)
      refine wp_ite (fun _ => bstep (b_lowestIn _) hA hC hR (frd_X8_lowestIn _ _) (fun M1 => frd_X9_lowestIn _ M1) (fun r A' M3 h1 h2 h3 => j_d_L_law_B862 M3 A' h1 h2 h3)) (fun _ => ?_)
      refine wp_ite (fun _ => bstep (b_why _ _ _ _) hA hC hR (frd_X8_why _ _ _ _ _) (fun M1 => frd_X9_why _ _ _ _ M1) (fun r A' M3 h1 h2 h3 => j_d_L_law_B862 M3 A' h1 h2 h3)) (fun _ => ?_)
      refine wp_ite (fun _ => bstep (b_earliest _ _ _) hA hC hR (frd_X8_earliest _ _ _ _) (fun M1 => frd_X9_earliest _ _ _ M1) (fun r A' M3 h1 h2 h3 => by rw [if_pos rfl]; exact j_d_L_law_B862 M3 A' h1 h2 h3)) (fun _ => ?_)
      refine wp_ite (fun _ => bstep (b_count _) hA hC hR (frd_X8_count _ _) (fun M1 => frd_X9_count _ M1) (fun r A' M3 h1 h2 h3 => j_d_L_law_B862 M3 A' h1 h2 h3)) (fun _ => ?_)
      exact j_d_L_law_B862 M A hA hC hR
  | _, 0, _, _, _, _, hn, _, _, _, _ => absurd hn (by omega)
theorem law_ok {xs : Nat → Int32} {L : Nat} (hL : L ≤ 2560) : ∃ M', d_law xs L M0 = some (1, M') := by
  have key : wp (d_law xs L M0) (fun r _ => r = 1) := by
    unfold d_law
    rw [show (0 : Int32) = I ((0 : Nat) : Int) from rfl]
    exact law_L hL 512 fuelN 0 M0 A00 (by omega) (by unfold fuelN; omega) (by omega) A00_i C00 R00
  obtain ⟨r, M', e, rfl⟩ := key
  exact ⟨M', e⟩
theorem whole_start {p : Program} {e : Env} {s : State} {m : MethodId} {below : List Frame} {meth : Method} {c : Code} (l : Launch) (hflags : l.flags = flags0) {b L : Nat} {xs : Nat → Int32} (hL : L ≤ 2560) (C0 : lw_At p s m meth c b L xs) : W p l e room_1 s m #[Value.ref b] below meth c s.heap [] 0 0 (lw_Z below #[Value.ref b] s) (entryFrame m ([Value.ref b] : List Value).toArray 4) := law_start l (law_ok hL) C0
