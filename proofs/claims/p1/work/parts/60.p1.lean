theorem c0_M0 : C0 M0 := fun _ _ => rfl
theorem r0_of {o : Ans} {M1 : Mem} {r : Int32} (hf : Fr PC M0 o) (e : o = some (r, M1)) : R0 M1 := fun i hi => hf.1 r M1 e i hi
theorem two {oX : Ans} {oR : Mem → Ans} {v : Int32} {kf : Mem → Ans} {Q : Int32 → Mem → Prop} (h1 : wp oX (fun r _ => r = v)) (hf : Fr PC M0 oX) (h2 : ∀ M1, R0 M1 → wp (oR M1) (fun r _ => r = v)) (h3 : ∀ M2, wp (kf M2) Q) : wp (bd oX fun r M1 => bd (oR M1) fun r' M2 => if r = r' then kf M2 else some (0, M2)) Q := by
  obtain ⟨r, M1, e, rfl⟩ := h1
  rw [e, bd_some]
  obtain ⟨r', M2, e', rfl⟩ := h2 M1 (r0_of hf e)
  rw [e', bd_some, if_pos rfl]
  exact h3 M2
theorem cx0 (o : Ans) : chk ((0 : Int32) + 0) 5 o = o := if_neg (by decide)
theorem cx1 (o : Ans) : chk ((0 : Int32) + 1) 5 o = o := if_neg (by decide)
theorem cx2 (o : Ans) : chk ((0 : Int32) + 2) 5 o = o := if_neg (by decide)
theorem cx3 (o : Ans) : chk ((0 : Int32) + 3) 5 o = o := if_neg (by decide)
theorem cx4 (o : Ans) : chk ((0 : Int32) + 4) 5 o = o := if_neg (by decide)
theorem cxz (o : Ans) : chk (0 : Int32) 5 o = o := if_neg (by decide)
theorem law_fin (xs : Nat → Int32) (M : Mem) : wp (d_L_law_B862 xs 5 (fun M132 => (some ((1 : Int32), M132))) (d_L_law_L18 xs 5 (fun M132 => (some ((1 : Int32), M132))) 3999) 0 M) (fun r _ => r = 1) := by
  unfold d_L_law_B862
  rw [wq_bnd, sd_L_law_L18 (n := 3998)]
  unfold d_L_law_L18_body
  rw [if_pos (by decide), wq_some]
set_option maxRecDepth 10000 in
theorem law_ok {xs : Nat → Int32} {L : Nat} (hL : L ≤ 5) : ∃ M', d_law xs L M0 = some (1, M') := by
  have key : wp (d_law xs L M0) (fun r _ => r = 1) := by
    unfold d_law
    rw [ud_L_law_L18]
    unfold d_L_law_L18_body
    rcases (show L = 0 ∨ L = 1 ∨ L = 2 ∨ L = 3 ∨ L = 4 ∨ L = 5 by omega) with rfl | rfl | rfl | rfl | rfl | rfl
    · rw [if_pos (by decide), wq_some]
    · rw [if_pos (by decide), wq_some]
    · rw [if_pos (by decide), wq_some]
    · rw [if_pos (by decide), wq_some]
    · rw [if_pos (by decide), wq_some]
    · rw [if_neg (by decide)]
      simp only [cxz, cx1, cx2, cx3, cx4]
      refine wp_ite (fun _ => two (p1_addRecipe c0_M0 _ _ _ _) (frd_X8_addRecipe _ _ _ _ _) (fun M1 h => q1_addRecipe h _ _ _ _) (law_fin xs)) (fun _ => ?_)
      refine wp_ite (fun _ => two (p1_setHeat c0_M0 _) (frd_X8_setHeat _ _) (fun M1 h => q1_setHeat h _) (law_fin xs)) (fun _ => ?_)
      refine wp_ite (fun _ => two (p1_setMost c0_M0 _) (frd_X8_setMost _ _) (fun M1 h => q1_setMost h _) (law_fin xs)) (fun _ => ?_)
      refine wp_ite (fun _ => two (p1_fall c0_M0 _) (frd_X8_fall _ _) (fun M1 h => q1_fall h _) (law_fin xs)) (fun _ => ?_)
      refine wp_ite (fun _ => two (p1_book c0_M0 _ _ _) (frd_X8_book _ _ _ _) (fun M1 h => q1_book h _ _ _) (law_fin xs)) (fun _ => ?_)
      refine wp_ite (fun _ => two (p1_cancel c0_M0 _) (frd_X8_cancel _ _) (fun M1 h => q1_cancel h _) (law_fin xs)) (fun _ => ?_)
      refine wp_ite (fun _ => two (p1_move c0_M0 _ _) (frd_X8_move _ _ _) (fun M1 h => q1_move h _ _) (law_fin xs)) (fun _ => ?_)
      refine wp_ite (fun _ => two (p1_repair c0_M0) (frd_X8_repair _) (fun M1 h => q1_repair h) (law_fin xs)) (fun _ => ?_)
      refine wp_ite (fun _ => two (p1_wish c0_M0 _ _ _) (frd_X8_wish _ _ _ _) (fun M1 h => q1_wish h _ _ _) (law_fin xs)) (fun _ => ?_)
      refine wp_ite (fun _ => two (p1_unwish c0_M0 _) (frd_X8_unwish _ _) (fun M1 h => q1_unwish h _) (law_fin xs)) (fun _ => ?_)
      refine wp_ite (fun _ => two (p1_pass c0_M0 _) (frd_X8_pass _ _) (fun M1 h => q1_pass h _) (law_fin xs)) (fun _ => ?_)
      refine wp_ite (fun _ => two (p1_type c0_M0 _) (frd_X8_type _ _) (fun M1 h => q1_type h _) (law_fin xs)) (fun _ => ?_)
      refine wp_ite (fun _ => two (p1_clearText c0_M0) (frd_X8_clearText _) (fun M1 h => q1_clearText h) (law_fin xs)) (fun _ => ?_)
      refine wp_ite (fun _ => two (p1_bookAll c0_M0) (frd_X8_bookAll _) (fun M1 h => q1_bookAll h) (law_fin xs)) (fun _ => ?_)
      refine wp_ite (fun _ => two (p1_undo c0_M0) (frd_X8_undo _) (fun M1 h => q1_undo h) (law_fin xs)) (fun _ => ?_)
      refine wp_ite (fun _ => two (p1_keep c0_M0) (frd_X8_keep _) (fun M1 h => q1_keep h) (law_fin xs)) (fun _ => ?_)
      refine wp_ite (fun _ => two (p1_restore c0_M0) (frd_X8_restore _) (fun M1 h => q1_restore h) (law_fin xs)) (fun _ => ?_)
      refine wp_ite (fun _ => two (p1_recipe c0_M0 _ _) (frd_X8_recipe _ _ _) (fun M1 h => q1_recipe h _ _) (law_fin xs)) (fun _ => ?_)
      refine wp_ite (fun _ => two (p1_robot c0_M0 _ _) (frd_X8_robot _ _ _) (fun M1 h => q1_robot h _ _) (law_fin xs)) (fun _ => ?_)
      refine wp_ite (fun _ => two (p1_booking c0_M0 _ _) (frd_X8_booking _ _ _) (fun M1 h => q1_booking h _ _) (law_fin xs)) (fun _ => ?_)
      refine wp_ite (fun _ => two (p1_wishTold c0_M0 _ _) (frd_X8_wishTold _ _ _) (fun M1 h => q1_wishTold h _ _) (law_fin xs)) (fun _ => ?_)
      refine wp_ite (fun _ => two (p1_pressureIn c0_M0 _) (frd_X8_pressureIn _ _) (fun M1 h => q1_pressureIn h _) (law_fin xs)) (fun _ => ?_)
      refine wp_ite (fun _ => two (p1_lowestIn c0_M0 _) (frd_X8_lowestIn _ _) (fun M1 h => q1_lowestIn h _) (law_fin xs)) (fun _ => ?_)
      refine wp_ite (fun _ => two (p1_why c0_M0 _ _ _ _) (frd_X8_why _ _ _ _ _) (fun M1 h => q1_why h _ _ _ _) (law_fin xs)) (fun _ => ?_)
      refine wp_ite (fun _ => two (p1_earliest c0_M0 _ _ _) (frd_X8_earliest _ _ _ _) (fun M1 h => q1_earliest h _ _ _) (law_fin xs)) (fun _ => ?_)
      refine wp_ite (fun _ => two (p1_count c0_M0 _) (frd_X8_count _ _) (fun M1 h => q1_count h _) (law_fin xs)) (fun _ => ?_)
      exact law_fin xs M0
  obtain ⟨r, M', e, rfl⟩ := key
  exact ⟨M', e⟩
theorem whole_start {p : Program} {e : Env} {s : State} {m : MethodId} {below : List Frame} {meth : Method} {c : Code} (l : Launch) (hflags : l.flags = flags0) {b L : Nat} {xs : Nat → Int32} (hL : L ≤ 5) (C0 : lw_At p s m meth c b L xs) : W p l e room_1 s m #[Value.ref b] below meth c s.heap [] 0 0 (lw_Z below #[Value.ref b] s) (entryFrame m ([Value.ref b] : List Value).toArray 4) := law_start l (law_ok hL) C0
