theorem dX9_in_0 : decode cX9_in 0 = .ok (.iload_n 0, 1) := by decide +kernel
theorem dX9_in_1 : decode cX9_in 1 = .ok (.iload_n 1, 1) := by decide +kernel
theorem dX9_in_2 : decode cX9_in 2 = .ok (.if_icmp .lt 12, 3) := by decide +kernel
theorem dX9_in_5 : decode cX9_in 5 = .ok (.iload_n 0, 1) := by decide +kernel
theorem dX9_in_6 : decode cX9_in 6 = .ok (.iload_n 2, 1) := by decide +kernel
theorem dX9_in_7 : decode cX9_in 7 = .ok (.if_icmp .gt 7, 3) := by decide +kernel
theorem dX9_in_10 : decode cX9_in 10 = .ok (.iconst 1, 1) := by decide +kernel
theorem dX9_in_11 : decode cX9_in 11 = .ok (.goto 4, 3) := by decide +kernel
theorem dX9_in_14 : decode cX9_in 14 = .ok (.iconst 0, 1) := by decide +kernel
theorem dX9_in_15 : decode cX9_in 15 = .ok (.ireturn, 1) := by decide +kernel
abbrev rX9_in : Room := { frames := 0, cells := 0, slots := 0, locals := 0 }
set_option maxRecDepth 20000 in
theorem c_X9_in (l : Launch) (y : Cy) (hy : Inj y) (p0 : Int32) (p1 : Int32) (p2 : Int32) (M : Mem) : CT l y yX9_in cX9_in 3 (some .boolean) rX9_in [.int p0, .int p1, .int p2] M (d_X9_in p0 p1 p2 M) := by
  refine CT_of (by decide) hy (Nat.le_of_ble_eq_true rfl) (fun x hxl h => ?_)
  show G x y 0 [(0, .int p0), (1, .int p1), (2, .int p2)] [] M _
  unfold d_X9_in
  refine G_iload_n (pc := 0) h.1 dX9_in_0 rfl 0 rfl ?_
  refine G_iload_n (pc := 1) h.1 dX9_in_1 rfl 1 rfl ?_
  refine G_icmp_lt (pc := 2) (tgt := 14) h.1 dX9_in_2 (by decide) ?_ ?_
  · refine G_iconst (pc := 14) (v := (0)) h.1 dX9_in_14 (by decide) ?_
    exact G_ret (pc := 15) h rfl dX9_in_15
  · refine G_iload_n (pc := 5) h.1 dX9_in_5 rfl 0 rfl ?_
    refine G_iload_n (pc := 6) h.1 dX9_in_6 rfl 2 rfl ?_
    refine G_icmp_gt (pc := 7) (tgt := 14) h.1 dX9_in_7 (by decide) ?_ ?_
    · refine G_iconst (pc := 14) (v := (0)) h.1 dX9_in_14 (by decide) ?_
      exact G_ret (pc := 15) h rfl dX9_in_15
    · refine G_iconst (pc := 10) (v := (1)) h.1 dX9_in_10 (by decide) ?_
      refine G_goto (pc := 11) (tgt := 15) h.1 dX9_in_11 (by decide) ?_
      exact G_ret (pc := 15) h rfl dX9_in_15
theorem dX9_of_0 : decode cX9_of 0 = .ok (.aload_n 0, 1) := by decide +kernel
theorem dX9_of_1 : decode cX9_of 1 = .ok (.getfield 7, 3) := by decide +kernel
theorem dX9_of_4 : decode cX9_of 4 = .ok (.bipush 42, 2) := by decide +kernel
theorem dX9_of_6 : decode cX9_of 6 = .ok (.iconst 5, 1) := by decide +kernel
theorem dX9_of_7 : decode cX9_of 7 = .ok (.iload_n 1, 1) := by decide +kernel
theorem dX9_of_8 : decode cX9_of 8 = .ok (.imul, 1) := by decide +kernel
theorem dX9_of_9 : decode cX9_of 9 = .ok (.iadd, 1) := by decide +kernel
theorem dX9_of_10 : decode cX9_of 10 = .ok (.iload_n 2, 1) := by decide +kernel
theorem dX9_of_11 : decode cX9_of 11 = .ok (.iadd, 1) := by decide +kernel
theorem dX9_of_12 : decode cX9_of 12 = .ok (.iaload, 1) := by decide +kernel
theorem dX9_of_13 : decode cX9_of 13 = .ok (.ireturn, 1) := by decide +kernel
abbrev rX9_of : Room := { frames := 0, cells := 0, slots := 0, locals := 0 }
set_option maxRecDepth 20000 in
theorem c_X9_of (l : Launch) (y : Cy) (hy : Inj y) (p1 : Int32) (p2 : Int32) (M : Mem) : CT l y yX9_of cX9_of 3 (some .int) rX9_of [.ref (y.2.1 143), .int p1, .int p2] M (d_X9_of p1 p2 M) := by
  refine CT_of (by decide) hy (Nat.le_of_ble_eq_true rfl) (fun x hxl h => ?_)
  show G x y 0 [(0, .ref (y.2.1 143)), (1, .int p1), (2, .int p2)] [] M _
  unfold d_X9_of
  refine G_aload_n (pc := 0) h.1 dX9_of_0 rfl 0 rfl ?_
  refine G_get (pc := 1) (v := .ref (y.2.1 144)) h.1 fl_X9_7 lN143 (eM143 _) rfl dX9_of_1 ?_
  refine G_bipush (pc := 4) (v := (42)) h.1 dX9_of_4 (by decide) ?_
  refine G_iconst (pc := 6) (v := (5)) h.1 dX9_of_6 (by decide) ?_
  refine G_iload_n (pc := 7) h.1 dX9_of_7 rfl 1 rfl ?_
  refine G_imul (pc := 8) h.1 dX9_of_8 ?_
  refine G_iadd (pc := 9) h.1 dX9_of_9 ?_
  refine G_iload_n (pc := 10) h.1 dX9_of_10 rfl 2 rfl ?_
  refine G_iadd (pc := 11) h.1 dX9_of_11 ?_
  refine G_iald (pc := 12) h.1 lN144 (eM144 _) dX9_of_12 ?_
  exact G_ret (pc := 13) h rfl dX9_of_13
theorem dX9_puts_0 : decode cX9_puts 0 = .ok (.aload_n 0, 1) := by decide +kernel
theorem dX9_puts_1 : decode cX9_puts 1 = .ok (.getfield 7, 3) := by decide +kernel
theorem dX9_puts_4 : decode cX9_puts 4 = .ok (.bipush 42, 2) := by decide +kernel
theorem dX9_puts_6 : decode cX9_puts 6 = .ok (.iconst 5, 1) := by decide +kernel
theorem dX9_puts_7 : decode cX9_puts 7 = .ok (.iload_n 1, 1) := by decide +kernel
theorem dX9_puts_8 : decode cX9_puts 8 = .ok (.imul, 1) := by decide +kernel
theorem dX9_puts_9 : decode cX9_puts 9 = .ok (.iadd, 1) := by decide +kernel
theorem dX9_puts_10 : decode cX9_puts 10 = .ok (.iload_n 2, 1) := by decide +kernel
theorem dX9_puts_11 : decode cX9_puts 11 = .ok (.iadd, 1) := by decide +kernel
theorem dX9_puts_12 : decode cX9_puts 12 = .ok (.iload_n 3, 1) := by decide +kernel
theorem dX9_puts_13 : decode cX9_puts 13 = .ok (.iastore, 1) := by decide +kernel
theorem dX9_puts_14 : decode cX9_puts 14 = .ok (.return_, 1) := by decide +kernel
abbrev rX9_puts : Room := { frames := 0, cells := 0, slots := 0, locals := 0 }
set_option maxRecDepth 20000 in
theorem c_X9_puts (l : Launch) (y : Cy) (hy : Inj y) (p1 : Int32) (p2 : Int32) (p3 : Int32) (M : Mem) : CT l y yX9_puts cX9_puts 4 none rX9_puts [.ref (y.2.1 143), .int p1, .int p2, .int p3] M (d_X9_puts p1 p2 p3 M) := by
  refine CT_of (by decide) hy (Nat.le_of_ble_eq_true rfl) (fun x hxl h => ?_)
  show G x y 0 [(0, .ref (y.2.1 143)), (1, .int p1), (2, .int p2), (3, .int p3)] [] M _
  unfold d_X9_puts
  refine G_aload_n (pc := 0) h.1 dX9_puts_0 rfl 0 rfl ?_
  refine G_get (pc := 1) (v := .ref (y.2.1 144)) h.1 fl_X9_7 lN143 (eM143 _) rfl dX9_puts_1 ?_
  refine G_bipush (pc := 4) (v := (42)) h.1 dX9_puts_4 (by decide) ?_
  refine G_iconst (pc := 6) (v := (5)) h.1 dX9_puts_6 (by decide) ?_
  refine G_iload_n (pc := 7) h.1 dX9_puts_7 rfl 1 rfl ?_
  refine G_imul (pc := 8) h.1 dX9_puts_8 ?_
  refine G_iadd (pc := 9) h.1 dX9_puts_9 ?_
  refine G_iload_n (pc := 10) h.1 dX9_puts_10 rfl 2 rfl ?_
  refine G_iadd (pc := 11) h.1 dX9_puts_11 ?_
  refine G_iload_n (pc := 12) h.1 dX9_puts_12 rfl 3 rfl ?_
  refine G_iast (pc := 13) h.1 lN144 (fun m => eM144 m) dX9_puts_13 (fun M1 => ?_)
  exact G_vret (pc := 14) h dX9_puts_14
theorem dX9_ofRecipe_0 : decode cX9_ofRecipe 0 = .ok (.aload_n 0, 1) := by decide +kernel
theorem dX9_ofRecipe_1 : decode cX9_ofRecipe 1 = .ok (.getfield 7, 3) := by decide +kernel
theorem dX9_ofRecipe_4 : decode cX9_ofRecipe 4 = .ok (.bipush 10, 2) := by decide +kernel
theorem dX9_ofRecipe_6 : decode cX9_ofRecipe 6 = .ok (.iconst 4, 1) := by decide +kernel
theorem dX9_ofRecipe_7 : decode cX9_ofRecipe 7 = .ok (.iload_n 1, 1) := by decide +kernel
theorem dX9_ofRecipe_8 : decode cX9_ofRecipe 8 = .ok (.imul, 1) := by decide +kernel
theorem dX9_ofRecipe_9 : decode cX9_ofRecipe 9 = .ok (.iadd, 1) := by decide +kernel
theorem dX9_ofRecipe_10 : decode cX9_ofRecipe 10 = .ok (.iload_n 2, 1) := by decide +kernel
theorem dX9_ofRecipe_11 : decode cX9_ofRecipe 11 = .ok (.iadd, 1) := by decide +kernel
theorem dX9_ofRecipe_12 : decode cX9_ofRecipe 12 = .ok (.iaload, 1) := by decide +kernel
theorem dX9_ofRecipe_13 : decode cX9_ofRecipe 13 = .ok (.ireturn, 1) := by decide +kernel
abbrev rX9_ofRecipe : Room := { frames := 0, cells := 0, slots := 0, locals := 0 }
set_option maxRecDepth 20000 in
theorem c_X9_ofRecipe (l : Launch) (y : Cy) (hy : Inj y) (p1 : Int32) (p2 : Int32) (M : Mem) : CT l y yX9_ofRecipe cX9_ofRecipe 3 (some .int) rX9_ofRecipe [.ref (y.2.1 143), .int p1, .int p2] M (d_X9_ofRecipe p1 p2 M) := by
  refine CT_of (by decide) hy (Nat.le_of_ble_eq_true rfl) (fun x hxl h => ?_)
  show G x y 0 [(0, .ref (y.2.1 143)), (1, .int p1), (2, .int p2)] [] M _
  unfold d_X9_ofRecipe
  refine G_aload_n (pc := 0) h.1 dX9_ofRecipe_0 rfl 0 rfl ?_
  refine G_get (pc := 1) (v := .ref (y.2.1 144)) h.1 fl_X9_7 lN143 (eM143 _) rfl dX9_ofRecipe_1 ?_
  refine G_bipush (pc := 4) (v := (10)) h.1 dX9_ofRecipe_4 (by decide) ?_
  refine G_iconst (pc := 6) (v := (4)) h.1 dX9_ofRecipe_6 (by decide) ?_
  refine G_iload_n (pc := 7) h.1 dX9_ofRecipe_7 rfl 1 rfl ?_
  refine G_imul (pc := 8) h.1 dX9_ofRecipe_8 ?_
  refine G_iadd (pc := 9) h.1 dX9_ofRecipe_9 ?_
  refine G_iload_n (pc := 10) h.1 dX9_ofRecipe_10 rfl 2 rfl ?_
  refine G_iadd (pc := 11) h.1 dX9_ofRecipe_11 ?_
  refine G_iald (pc := 12) h.1 lN144 (eM144 _) dX9_ofRecipe_12 ?_
  exact G_ret (pc := 13) h rfl dX9_ofRecipe_13
theorem dX9_ofWish_0 : decode cX9_ofWish 0 = .ok (.aload_n 0, 1) := by decide +kernel
theorem dX9_ofWish_1 : decode cX9_ofWish 1 = .ok (.getfield 7, 3) := by decide +kernel
theorem dX9_ofWish_4 : decode cX9_ofWish 4 = .ok (.sipush 342, 3) := by decide +kernel
theorem dX9_ofWish_7 : decode cX9_ofWish 7 = .ok (.iconst 3, 1) := by decide +kernel
theorem dX9_ofWish_8 : decode cX9_ofWish 8 = .ok (.iload_n 1, 1) := by decide +kernel
theorem dX9_ofWish_9 : decode cX9_ofWish 9 = .ok (.imul, 1) := by decide +kernel
theorem dX9_ofWish_10 : decode cX9_ofWish 10 = .ok (.iadd, 1) := by decide +kernel
theorem dX9_ofWish_11 : decode cX9_ofWish 11 = .ok (.iload_n 2, 1) := by decide +kernel
theorem dX9_ofWish_12 : decode cX9_ofWish 12 = .ok (.iadd, 1) := by decide +kernel
theorem dX9_ofWish_13 : decode cX9_ofWish 13 = .ok (.iaload, 1) := by decide +kernel
theorem dX9_ofWish_14 : decode cX9_ofWish 14 = .ok (.ireturn, 1) := by decide +kernel
abbrev rX9_ofWish : Room := { frames := 0, cells := 0, slots := 0, locals := 0 }
set_option maxRecDepth 20000 in
theorem c_X9_ofWish (l : Launch) (y : Cy) (hy : Inj y) (p1 : Int32) (p2 : Int32) (M : Mem) : CT l y yX9_ofWish cX9_ofWish 3 (some .int) rX9_ofWish [.ref (y.2.1 143), .int p1, .int p2] M (d_X9_ofWish p1 p2 M) := by
  refine CT_of (by decide) hy (Nat.le_of_ble_eq_true rfl) (fun x hxl h => ?_)
  show G x y 0 [(0, .ref (y.2.1 143)), (1, .int p1), (2, .int p2)] [] M _
  unfold d_X9_ofWish
  refine G_aload_n (pc := 0) h.1 dX9_ofWish_0 rfl 0 rfl ?_
  refine G_get (pc := 1) (v := .ref (y.2.1 144)) h.1 fl_X9_7 lN143 (eM143 _) rfl dX9_ofWish_1 ?_
  refine G_sipush (pc := 4) (v := (342)) h.1 dX9_ofWish_4 (by decide) ?_
  refine G_iconst (pc := 7) (v := (3)) h.1 dX9_ofWish_7 (by decide) ?_
  refine G_iload_n (pc := 8) h.1 dX9_ofWish_8 rfl 1 rfl ?_
  refine G_imul (pc := 9) h.1 dX9_ofWish_9 ?_
  refine G_iadd (pc := 10) h.1 dX9_ofWish_10 ?_
  refine G_iload_n (pc := 11) h.1 dX9_ofWish_11 rfl 2 rfl ?_
  refine G_iadd (pc := 12) h.1 dX9_ofWish_12 ?_
  refine G_iald (pc := 13) h.1 lN144 (eM144 _) dX9_ofWish_13 ?_
  exact G_ret (pc := 14) h rfl dX9_ofWish_14
theorem dX9_noRecipe_0 : decode cX9_noRecipe 0 = .ok (.iload_n 1, 1) := by decide +kernel
theorem dX9_noRecipe_1 : decode cX9_noRecipe 1 = .ok (.iconst 0, 1) := by decide +kernel
theorem dX9_noRecipe_2 : decode cX9_noRecipe 2 = .ok (.aload_n 0, 1) := by decide +kernel
theorem dX9_noRecipe_3 : decode cX9_noRecipe 3 = .ok (.getfield 7, 3) := by decide +kernel
theorem dX9_noRecipe_6 : decode cX9_noRecipe 6 = .ok (.iconst 4, 1) := by decide +kernel
theorem dX9_noRecipe_7 : decode cX9_noRecipe 7 = .ok (.iaload, 1) := by decide +kernel
theorem dX9_noRecipe_8 : decode cX9_noRecipe 8 = .ok (.iconst 1, 1) := by decide +kernel
theorem dX9_noRecipe_9 : decode cX9_noRecipe 9 = .ok (.isub, 1) := by decide +kernel
theorem dX9_noRecipe_10 : decode cX9_noRecipe 10 = .ok (.invokestatic 52, 3) := by decide +kernel
theorem dX9_noRecipe_13 : decode cX9_noRecipe 13 = .ok (.ifCond .ne 7, 3) := by decide +kernel
theorem dX9_noRecipe_16 : decode cX9_noRecipe 16 = .ok (.iconst 1, 1) := by decide +kernel
theorem dX9_noRecipe_17 : decode cX9_noRecipe 17 = .ok (.goto 4, 3) := by decide +kernel
theorem dX9_noRecipe_20 : decode cX9_noRecipe 20 = .ok (.iconst 0, 1) := by decide +kernel
theorem dX9_noRecipe_21 : decode cX9_noRecipe 21 = .ok (.ireturn, 1) := by decide +kernel
abbrev rX9_noRecipe : Room := { frames := 1, cells := 0, slots := 0, locals := 22 }
set_option maxRecDepth 20000 in
theorem c_X9_noRecipe (l : Launch) (y : Cy) (hy : Inj y) (p1 : Int32) (M : Mem) : CT l y yX9_noRecipe cX9_noRecipe 2 (some .boolean) rX9_noRecipe [.ref (y.2.1 143), .int p1] M (d_X9_noRecipe p1 M) := by
  refine CT_of (by decide) hy (Nat.le_of_ble_eq_true rfl) (fun x hxl h => ?_)
  show G x y 0 [(0, .ref (y.2.1 143)), (1, .int p1)] [] M _
  unfold d_X9_noRecipe
  refine G_iload_n (pc := 0) h.1 dX9_noRecipe_0 rfl 1 rfl ?_
  refine G_iconst (pc := 1) (v := (0)) h.1 dX9_noRecipe_1 (by decide) ?_
  refine G_aload_n (pc := 2) h.1 dX9_noRecipe_2 rfl 0 rfl ?_
  refine G_get (pc := 3) (v := .ref (y.2.1 144)) h.1 fl_X9_7 lN143 (eM143 _) rfl dX9_noRecipe_3 ?_
  refine G_iconst (pc := 6) (v := (4)) h.1 dX9_noRecipe_6 (by decide) ?_
  refine G_iald (pc := 7) h.1 lN144 (eM144 _) dX9_noRecipe_7 ?_
  refine G_iconst (pc := 8) (v := (1)) h.1 dX9_noRecipe_8 (by decide) ?_
  refine G_isub (pc := 9) h.1 dX9_noRecipe_9 ?_
  refine G_callS (pc := 10) (As := [.int p1, .int (0 : Int32), .int ((M 144 ((4 : Int32)).toNatClampNeg) - (1 : Int32))]) (rest := []) h.1 h.2.2.1 lk_X9_52 (c_X9_in x.1.2.1 y hy p1 (0 : Int32) ((M 144 ((4 : Int32)).toNatClampNeg) - (1 : Int32)) M) rfl rfl (Nat.le_of_ble_eq_true rfl) ⟨rfl, rfl, Nat.le_of_ble_eq_true rfl, Nat.le_of_ble_eq_true rfl⟩ dX9_noRecipe_10 (fun r2 M1 => ?_)
  refine G_if_ne (pc := 13) (tgt := 20) h.1 dX9_noRecipe_13 (by decide) ?_ ?_
  · refine G_iconst (pc := 20) (v := (0)) h.1 dX9_noRecipe_20 (by decide) ?_
    exact G_ret (pc := 21) h rfl dX9_noRecipe_21
  · refine G_iconst (pc := 16) (v := (1)) h.1 dX9_noRecipe_16 (by decide) ?_
    refine G_goto (pc := 17) (tgt := 21) h.1 dX9_noRecipe_17 (by decide) ?_
    exact G_ret (pc := 21) h rfl dX9_noRecipe_21
theorem dX9_noRobot_0 : decode cX9_noRobot 0 = .ok (.iload_n 0, 1) := by decide +kernel
theorem dX9_noRobot_1 : decode cX9_noRobot 1 = .ok (.iconst 0, 1) := by decide +kernel
theorem dX9_noRobot_2 : decode cX9_noRobot 2 = .ok (.iconst 5, 1) := by decide +kernel
theorem dX9_noRobot_3 : decode cX9_noRobot 3 = .ok (.invokestatic 52, 3) := by decide +kernel
theorem dX9_noRobot_6 : decode cX9_noRobot 6 = .ok (.ifCond .ne 7, 3) := by decide +kernel
theorem dX9_noRobot_9 : decode cX9_noRobot 9 = .ok (.iconst 1, 1) := by decide +kernel
theorem dX9_noRobot_10 : decode cX9_noRobot 10 = .ok (.goto 4, 3) := by decide +kernel
theorem dX9_noRobot_13 : decode cX9_noRobot 13 = .ok (.iconst 0, 1) := by decide +kernel
theorem dX9_noRobot_14 : decode cX9_noRobot 14 = .ok (.ireturn, 1) := by decide +kernel
abbrev rX9_noRobot : Room := { frames := 1, cells := 0, slots := 0, locals := 22 }
set_option maxRecDepth 20000 in
theorem c_X9_noRobot (l : Launch) (y : Cy) (hy : Inj y) (p0 : Int32) (M : Mem) : CT l y yX9_noRobot cX9_noRobot 1 (some .boolean) rX9_noRobot [.int p0] M (d_X9_noRobot p0 M) := by
  refine CT_of (by decide) hy (Nat.le_of_ble_eq_true rfl) (fun x hxl h => ?_)
  show G x y 0 [(0, .int p0)] [] M _
  unfold d_X9_noRobot
  refine G_iload_n (pc := 0) h.1 dX9_noRobot_0 rfl 0 rfl ?_
  refine G_iconst (pc := 1) (v := (0)) h.1 dX9_noRobot_1 (by decide) ?_
  refine G_iconst (pc := 2) (v := (5)) h.1 dX9_noRobot_2 (by decide) ?_
  refine G_callS (pc := 3) (As := [.int p0, .int (0 : Int32), .int (5 : Int32)]) (rest := []) h.1 h.2.2.1 lk_X9_52 (c_X9_in x.1.2.1 y hy p0 (0 : Int32) (5 : Int32) M) rfl rfl (Nat.le_of_ble_eq_true rfl) ⟨rfl, rfl, Nat.le_of_ble_eq_true rfl, Nat.le_of_ble_eq_true rfl⟩ dX9_noRobot_3 (fun r2 M1 => ?_)
  refine G_if_ne (pc := 6) (tgt := 13) h.1 dX9_noRobot_6 (by decide) ?_ ?_
  · refine G_iconst (pc := 13) (v := (0)) h.1 dX9_noRobot_13 (by decide) ?_
    exact G_ret (pc := 14) h rfl dX9_noRobot_14
  · refine G_iconst (pc := 9) (v := (1)) h.1 dX9_noRobot_9 (by decide) ?_
    refine G_goto (pc := 10) (tgt := 14) h.1 dX9_noRobot_10 (by decide) ?_
    exact G_ret (pc := 14) h rfl dX9_noRobot_14
theorem dX9_noBooking_0 : decode cX9_noBooking 0 = .ok (.iload_n 1, 1) := by decide +kernel
theorem dX9_noBooking_1 : decode cX9_noBooking 1 = .ok (.iconst 0, 1) := by decide +kernel
theorem dX9_noBooking_2 : decode cX9_noBooking 2 = .ok (.aload_n 0, 1) := by decide +kernel
theorem dX9_noBooking_3 : decode cX9_noBooking 3 = .ok (.getfield 7, 3) := by decide +kernel
theorem dX9_noBooking_6 : decode cX9_noBooking 6 = .ok (.iconst 5, 1) := by decide +kernel
theorem dX9_noBooking_7 : decode cX9_noBooking 7 = .ok (.iaload, 1) := by decide +kernel
theorem dX9_noBooking_8 : decode cX9_noBooking 8 = .ok (.iconst 1, 1) := by decide +kernel
theorem dX9_noBooking_9 : decode cX9_noBooking 9 = .ok (.isub, 1) := by decide +kernel
theorem dX9_noBooking_10 : decode cX9_noBooking 10 = .ok (.invokestatic 52, 3) := by decide +kernel
theorem dX9_noBooking_13 : decode cX9_noBooking 13 = .ok (.ifCond .ne 7, 3) := by decide +kernel
theorem dX9_noBooking_16 : decode cX9_noBooking 16 = .ok (.iconst 1, 1) := by decide +kernel
theorem dX9_noBooking_17 : decode cX9_noBooking 17 = .ok (.goto 4, 3) := by decide +kernel
theorem dX9_noBooking_20 : decode cX9_noBooking 20 = .ok (.iconst 0, 1) := by decide +kernel
theorem dX9_noBooking_21 : decode cX9_noBooking 21 = .ok (.ireturn, 1) := by decide +kernel
abbrev rX9_noBooking : Room := { frames := 1, cells := 0, slots := 0, locals := 22 }
set_option maxRecDepth 20000 in
theorem c_X9_noBooking (l : Launch) (y : Cy) (hy : Inj y) (p1 : Int32) (M : Mem) : CT l y yX9_noBooking cX9_noBooking 2 (some .boolean) rX9_noBooking [.ref (y.2.1 143), .int p1] M (d_X9_noBooking p1 M) := by
  refine CT_of (by decide) hy (Nat.le_of_ble_eq_true rfl) (fun x hxl h => ?_)
  show G x y 0 [(0, .ref (y.2.1 143)), (1, .int p1)] [] M _
  unfold d_X9_noBooking
  refine G_iload_n (pc := 0) h.1 dX9_noBooking_0 rfl 1 rfl ?_
  refine G_iconst (pc := 1) (v := (0)) h.1 dX9_noBooking_1 (by decide) ?_
  refine G_aload_n (pc := 2) h.1 dX9_noBooking_2 rfl 0 rfl ?_
  refine G_get (pc := 3) (v := .ref (y.2.1 144)) h.1 fl_X9_7 lN143 (eM143 _) rfl dX9_noBooking_3 ?_
  refine G_iconst (pc := 6) (v := (5)) h.1 dX9_noBooking_6 (by decide) ?_
  refine G_iald (pc := 7) h.1 lN144 (eM144 _) dX9_noBooking_7 ?_
  refine G_iconst (pc := 8) (v := (1)) h.1 dX9_noBooking_8 (by decide) ?_
  refine G_isub (pc := 9) h.1 dX9_noBooking_9 ?_
  refine G_callS (pc := 10) (As := [.int p1, .int (0 : Int32), .int ((M 144 ((5 : Int32)).toNatClampNeg) - (1 : Int32))]) (rest := []) h.1 h.2.2.1 lk_X9_52 (c_X9_in x.1.2.1 y hy p1 (0 : Int32) ((M 144 ((5 : Int32)).toNatClampNeg) - (1 : Int32)) M) rfl rfl (Nat.le_of_ble_eq_true rfl) ⟨rfl, rfl, Nat.le_of_ble_eq_true rfl, Nat.le_of_ble_eq_true rfl⟩ dX9_noBooking_10 (fun r2 M1 => ?_)
  refine G_if_ne (pc := 13) (tgt := 20) h.1 dX9_noBooking_13 (by decide) ?_ ?_
  · refine G_iconst (pc := 20) (v := (0)) h.1 dX9_noBooking_20 (by decide) ?_
    exact G_ret (pc := 21) h rfl dX9_noBooking_21
  · refine G_iconst (pc := 16) (v := (1)) h.1 dX9_noBooking_16 (by decide) ?_
    refine G_goto (pc := 17) (tgt := 21) h.1 dX9_noBooking_17 (by decide) ?_
    exact G_ret (pc := 21) h rfl dX9_noBooking_21
theorem dX9_isStart_0 : decode cX9_isStart 0 = .ok (.iload_n 1, 1) := by decide +kernel
theorem dX9_isStart_1 : decode cX9_isStart 1 = .ok (.aload_n 0, 1) := by decide +kernel
theorem dX9_isStart_2 : decode cX9_isStart 2 = .ok (.getfield 7, 3) := by decide +kernel
theorem dX9_isStart_5 : decode cX9_isStart 5 = .ok (.iconst 0, 1) := by decide +kernel
theorem dX9_isStart_6 : decode cX9_isStart 6 = .ok (.iaload, 1) := by decide +kernel
theorem dX9_isStart_7 : decode cX9_isStart 7 = .ok (.iconst 1, 1) := by decide +kernel
theorem dX9_isStart_8 : decode cX9_isStart 8 = .ok (.iadd, 1) := by decide +kernel
theorem dX9_isStart_9 : decode cX9_isStart 9 = .ok (.aload_n 0, 1) := by decide +kernel
theorem dX9_isStart_10 : decode cX9_isStart 10 = .ok (.getfield 7, 3) := by decide +kernel
theorem dX9_isStart_13 : decode cX9_isStart 13 = .ok (.iconst 0, 1) := by decide +kernel
theorem dX9_isStart_14 : decode cX9_isStart 14 = .ok (.iaload, 1) := by decide +kernel
theorem dX9_isStart_15 : decode cX9_isStart 15 = .ok (.bipush 60, 2) := by decide +kernel
theorem dX9_isStart_17 : decode cX9_isStart 17 = .ok (.iadd, 1) := by decide +kernel
theorem dX9_isStart_18 : decode cX9_isStart 18 = .ok (.invokestatic 52, 3) := by decide +kernel
theorem dX9_isStart_21 : decode cX9_isStart 21 = .ok (.ireturn, 1) := by decide +kernel
abbrev rX9_isStart : Room := { frames := 1, cells := 0, slots := 0, locals := 22 }
set_option maxRecDepth 20000 in
theorem c_X9_isStart (l : Launch) (y : Cy) (hy : Inj y) (p1 : Int32) (M : Mem) : CT l y yX9_isStart cX9_isStart 2 (some .boolean) rX9_isStart [.ref (y.2.1 143), .int p1] M (d_X9_isStart p1 M) := by
  refine CT_of (by decide) hy (Nat.le_of_ble_eq_true rfl) (fun x hxl h => ?_)
  show G x y 0 [(0, .ref (y.2.1 143)), (1, .int p1)] [] M _
  unfold d_X9_isStart
  refine G_iload_n (pc := 0) h.1 dX9_isStart_0 rfl 1 rfl ?_
  refine G_aload_n (pc := 1) h.1 dX9_isStart_1 rfl 0 rfl ?_
  refine G_get (pc := 2) (v := .ref (y.2.1 144)) h.1 fl_X9_7 lN143 (eM143 _) rfl dX9_isStart_2 ?_
  refine G_iconst (pc := 5) (v := (0)) h.1 dX9_isStart_5 (by decide) ?_
  refine G_iald (pc := 6) h.1 lN144 (eM144 _) dX9_isStart_6 ?_
  refine G_iconst (pc := 7) (v := (1)) h.1 dX9_isStart_7 (by decide) ?_
  refine G_iadd (pc := 8) h.1 dX9_isStart_8 ?_
  refine G_aload_n (pc := 9) h.1 dX9_isStart_9 rfl 0 rfl ?_
  refine G_get (pc := 10) (v := .ref (y.2.1 144)) h.1 fl_X9_7 lN143 (eM143 _) rfl dX9_isStart_10 ?_
  refine G_iconst (pc := 13) (v := (0)) h.1 dX9_isStart_13 (by decide) ?_
  refine G_iald (pc := 14) h.1 lN144 (eM144 _) dX9_isStart_14 ?_
  refine G_bipush (pc := 15) (v := (60)) h.1 dX9_isStart_15 (by decide) ?_
  refine G_iadd (pc := 17) h.1 dX9_isStart_17 ?_
  refine G_callS (pc := 18) (As := [.int p1, .int ((M 144 ((0 : Int32)).toNatClampNeg) + (1 : Int32)), .int ((M 144 ((0 : Int32)).toNatClampNeg) + (60 : Int32))]) (rest := []) h.1 h.2.2.1 lk_X9_52 (c_X9_in x.1.2.1 y hy p1 ((M 144 ((0 : Int32)).toNatClampNeg) + (1 : Int32)) ((M 144 ((0 : Int32)).toNatClampNeg) + (60 : Int32)) M) rfl rfl (Nat.le_of_ble_eq_true rfl) ⟨rfl, rfl, Nat.le_of_ble_eq_true rfl, Nat.le_of_ble_eq_true rfl⟩ dX9_isStart_18 (fun r2 M1 => ?_)
  exact G_retN (pc := 21) h dX9_isStart_21
theorem dX9_isOpen_0 : decode cX9_isOpen 0 = .ok (.aload_n 0, 1) := by decide +kernel
theorem dX9_isOpen_1 : decode cX9_isOpen 1 = .ok (.iload_n 1, 1) := by decide +kernel
theorem dX9_isOpen_2 : decode cX9_isOpen 2 = .ok (.iconst 3, 1) := by decide +kernel
theorem dX9_isOpen_3 : decode cX9_isOpen 3 = .ok (.invokevirtual 56, 3) := by decide +kernel
theorem dX9_isOpen_6 : decode cX9_isOpen 6 = .ok (.iconst 1, 1) := by decide +kernel
theorem dX9_isOpen_7 : decode cX9_isOpen 7 = .ok (.if_icmp .gt 7, 3) := by decide +kernel
theorem dX9_isOpen_10 : decode cX9_isOpen 10 = .ok (.iconst 1, 1) := by decide +kernel
theorem dX9_isOpen_11 : decode cX9_isOpen 11 = .ok (.goto 4, 3) := by decide +kernel
theorem dX9_isOpen_14 : decode cX9_isOpen 14 = .ok (.iconst 0, 1) := by decide +kernel
theorem dX9_isOpen_15 : decode cX9_isOpen 15 = .ok (.ireturn, 1) := by decide +kernel
abbrev rX9_isOpen : Room := { frames := 1, cells := 0, slots := 0, locals := 22 }
set_option maxRecDepth 20000 in
theorem c_X9_isOpen (l : Launch) (y : Cy) (hy : Inj y) (p1 : Int32) (M : Mem) : CT l y yX9_isOpen cX9_isOpen 2 (some .boolean) rX9_isOpen [.ref (y.2.1 143), .int p1] M (d_X9_isOpen p1 M) := by
  refine CT_of (by decide) hy (Nat.le_of_ble_eq_true rfl) (fun x hxl h => ?_)
  show G x y 0 [(0, .ref (y.2.1 143)), (1, .int p1)] [] M _
  unfold d_X9_isOpen
  refine G_aload_n (pc := 0) h.1 dX9_isOpen_0 rfl 0 rfl ?_
  refine G_iload_n (pc := 1) h.1 dX9_isOpen_1 rfl 1 rfl ?_
  refine G_iconst (pc := 2) (v := (3)) h.1 dX9_isOpen_2 (by decide) ?_
  refine G_callV (pc := 3) (As := [.int p1, .int (3 : Int32)]) (rest := []) h.1 h.2.2.1 lk_X9_56 lN143 (eM143 _) rfl rfl (c_X9_of x.1.2.1 y hy p1 (3 : Int32) M) rfl rfl (Nat.le_of_ble_eq_true rfl) ⟨rfl, rfl, Nat.le_of_ble_eq_true rfl, Nat.le_of_ble_eq_true rfl⟩ dX9_isOpen_3 (fun r2 M1 => ?_)
  refine G_iconst (pc := 6) (v := (1)) h.1 dX9_isOpen_6 (by decide) ?_
  refine G_icmp_gt (pc := 7) (tgt := 14) h.1 dX9_isOpen_7 (by decide) ?_ ?_
  · refine G_iconst (pc := 14) (v := (0)) h.1 dX9_isOpen_14 (by decide) ?_
    exact G_ret (pc := 15) h rfl dX9_isOpen_15
  · refine G_iconst (pc := 10) (v := (1)) h.1 dX9_isOpen_10 (by decide) ?_
    refine G_goto (pc := 11) (tgt := 15) h.1 dX9_isOpen_11 (by decide) ?_
    exact G_ret (pc := 15) h rfl dX9_isOpen_15
theorem dX9_record_0 : decode cX9_record 0 = .ok (.aload_n 0, 1) := by decide +kernel
theorem dX9_record_1 : decode cX9_record 1 = .ok (.getfield 60, 3) := by decide +kernel
theorem dX9_record_4 : decode cX9_record 4 = .ok (.iconst 4, 1) := by decide +kernel
theorem dX9_record_5 : decode cX9_record 5 = .ok (.if_icmp .ne 44, 3) := by decide +kernel
theorem dX9_record_8 : decode cX9_record 8 = .ok (.iconst 0, 1) := by decide +kernel
theorem dX9_record_9 : decode cX9_record 9 = .ok (.istore_n 1, 1) := by decide +kernel
theorem dX9_record_10 : decode cX9_record 10 = .ok (.iload_n 1, 1) := by decide +kernel
theorem dX9_record_11 : decode cX9_record 11 = .ok (.sipush 1098, 3) := by decide +kernel
theorem dX9_record_14 : decode cX9_record 14 = .ok (.if_icmp .ge 25, 3) := by decide +kernel
theorem dX9_record_17 : decode cX9_record 17 = .ok (.aload_n 0, 1) := by decide +kernel
theorem dX9_record_18 : decode cX9_record 18 = .ok (.getfield 13, 3) := by decide +kernel
theorem dX9_record_21 : decode cX9_record 21 = .ok (.iload_n 1, 1) := by decide +kernel
theorem dX9_record_22 : decode cX9_record 22 = .ok (.aload_n 0, 1) := by decide +kernel
theorem dX9_record_23 : decode cX9_record 23 = .ok (.getfield 13, 3) := by decide +kernel
theorem dX9_record_26 : decode cX9_record 26 = .ok (.iload_n 1, 1) := by decide +kernel
theorem dX9_record_27 : decode cX9_record 27 = .ok (.sipush 366, 3) := by decide +kernel
theorem dX9_record_30 : decode cX9_record 30 = .ok (.iadd, 1) := by decide +kernel
theorem dX9_record_31 : decode cX9_record 31 = .ok (.iaload, 1) := by decide +kernel
theorem dX9_record_32 : decode cX9_record 32 = .ok (.iastore, 1) := by decide +kernel
theorem dX9_record_33 : decode cX9_record 33 = .ok (.iinc 1 1, 3) := by decide +kernel
theorem dX9_record_36 : decode cX9_record 36 = .ok (.goto (-26), 3) := by decide +kernel
theorem dX9_record_39 : decode cX9_record 39 = .ok (.aload_n 0, 1) := by decide +kernel
theorem dX9_record_40 : decode cX9_record 40 = .ok (.dup, 1) := by decide +kernel
theorem dX9_record_41 : decode cX9_record 41 = .ok (.getfield 60, 3) := by decide +kernel
theorem dX9_record_44 : decode cX9_record 44 = .ok (.iconst 1, 1) := by decide +kernel
theorem dX9_record_45 : decode cX9_record 45 = .ok (.isub, 1) := by decide +kernel
theorem dX9_record_46 : decode cX9_record 46 = .ok (.putfield 60, 3) := by decide +kernel
theorem dX9_record_49 : decode cX9_record 49 = .ok (.iconst 0, 1) := by decide +kernel
theorem dX9_record_50 : decode cX9_record 50 = .ok (.istore_n 1, 1) := by decide +kernel
theorem dX9_record_51 : decode cX9_record 51 = .ok (.iload_n 1, 1) := by decide +kernel
theorem dX9_record_52 : decode cX9_record 52 = .ok (.sipush 366, 3) := by decide +kernel
theorem dX9_record_55 : decode cX9_record 55 = .ok (.if_icmp .ge 30, 3) := by decide +kernel
theorem dX9_record_58 : decode cX9_record 58 = .ok (.aload_n 0, 1) := by decide +kernel
theorem dX9_record_59 : decode cX9_record 59 = .ok (.getfield 13, 3) := by decide +kernel
theorem dX9_record_62 : decode cX9_record 62 = .ok (.sipush 366, 3) := by decide +kernel
theorem dX9_record_65 : decode cX9_record 65 = .ok (.aload_n 0, 1) := by decide +kernel
theorem dX9_record_66 : decode cX9_record 66 = .ok (.getfield 60, 3) := by decide +kernel
theorem dX9_record_69 : decode cX9_record 69 = .ok (.imul, 1) := by decide +kernel
theorem dX9_record_70 : decode cX9_record 70 = .ok (.iload_n 1, 1) := by decide +kernel
theorem dX9_record_71 : decode cX9_record 71 = .ok (.iadd, 1) := by decide +kernel
theorem dX9_record_72 : decode cX9_record 72 = .ok (.aload_n 0, 1) := by decide +kernel
theorem dX9_record_73 : decode cX9_record 73 = .ok (.getfield 7, 3) := by decide +kernel
theorem dX9_record_76 : decode cX9_record 76 = .ok (.iload_n 1, 1) := by decide +kernel
theorem dX9_record_77 : decode cX9_record 77 = .ok (.iaload, 1) := by decide +kernel
theorem dX9_record_78 : decode cX9_record 78 = .ok (.iastore, 1) := by decide +kernel
theorem dX9_record_79 : decode cX9_record 79 = .ok (.iinc 1 1, 3) := by decide +kernel
theorem dX9_record_82 : decode cX9_record 82 = .ok (.goto (-31), 3) := by decide +kernel
theorem dX9_record_85 : decode cX9_record 85 = .ok (.aload_n 0, 1) := by decide +kernel
theorem dX9_record_86 : decode cX9_record 86 = .ok (.dup, 1) := by decide +kernel
theorem dX9_record_87 : decode cX9_record 87 = .ok (.getfield 60, 3) := by decide +kernel
theorem dX9_record_90 : decode cX9_record 90 = .ok (.iconst 1, 1) := by decide +kernel
theorem dX9_record_91 : decode cX9_record 91 = .ok (.iadd, 1) := by decide +kernel
theorem dX9_record_92 : decode cX9_record 92 = .ok (.putfield 60, 3) := by decide +kernel
theorem dX9_record_95 : decode cX9_record 95 = .ok (.return_, 1) := by decide +kernel
abbrev rX9_record : Room := { frames := 0, cells := 0, slots := 0, locals := 0 }
set_option maxRecDepth 20000 in
theorem gd_X9_record_L51_body {x : Cx} {y : Cy} (hy : Inj y) (h : OkM x y cX9_record RX9 2 none rX9_record) (kx1 : Mem → Ans) (hx1 : ∀ M0 : Mem, G x y 85 [(0, .ref (y.2.1 143))] [] M0 (kx1 M0)) (kb : Int32 → Mem → Ans) (hb : ∀ (b1 : Int32), ∀ M0 : Mem, G x y 51 [(0, .ref (y.2.1 143)), (1, .int b1)] [] M0 (kb b1 M0)) (a1 : Int32) (M : Mem) : G x y 51 [(0, .ref (y.2.1 143)), (1, .int a1)] [] M (d_X9_record_L51_body kx1 kb a1 M) := by
  unfold d_X9_record_L51_body
  refine G_iload_n (pc := 51) h.1 dX9_record_51 rfl 1 rfl ?_
  refine G_sipush (pc := 52) (v := (366)) h.1 dX9_record_52 (by decide) ?_
  refine G_icmp_ge (pc := 55) (tgt := 85) h.1 dX9_record_55 (by decide) ?_ ?_
  · exact G_sub [0] rfl (hx1 M)
  · refine G_aload_n (pc := 58) h.1 dX9_record_58 rfl 0 rfl ?_
    refine G_get (pc := 59) (v := .ref (y.2.1 145)) h.1 fl_X9_13 lN143 (eM143 _) rfl dX9_record_59 ?_
    refine G_sipush (pc := 62) (v := (366)) h.1 dX9_record_62 (by decide) ?_
    refine G_aload_n (pc := 65) h.1 dX9_record_65 rfl 0 rfl ?_
    refine G_get (pc := 66) (v := .int (M 143 2)) h.1 fl_X9_60 lN143 (eM143 _) rfl dX9_record_66 ?_
    refine G_imul (pc := 69) h.1 dX9_record_69 ?_
    refine G_iload_n (pc := 70) h.1 dX9_record_70 rfl 1 rfl ?_
    refine G_iadd (pc := 71) h.1 dX9_record_71 ?_
    refine G_aload_n (pc := 72) h.1 dX9_record_72 rfl 0 rfl ?_
    refine G_get (pc := 73) (v := .ref (y.2.1 144)) h.1 fl_X9_7 lN143 (eM143 _) rfl dX9_record_73 ?_
    refine G_iload_n (pc := 76) h.1 dX9_record_76 rfl 1 rfl ?_
    refine G_iald (pc := 77) h.1 lN144 (eM144 _) dX9_record_77 ?_
    refine G_iast (pc := 78) h.1 lN145 (fun m => eM145 m) dX9_record_78 (fun M1 => ?_)
    refine G_iinc (pc := 79) (v := a1 + (1)) h.1 h.2.1 (fun v2 => [(1, .int v2), (0, .ref (y.2.1 143))]) dX9_record_79 (by decide) 1 rfl rfl (fun _ => rfl) (fun v2 => ?_)
    refine G_goto (pc := 82) (tgt := 51) h.1 dX9_record_82 (by decide) ?_
    exact G_sub [1, 0] rfl (hb v2 M1)
set_option maxRecDepth 20000 in
theorem gd_X9_record_L51 {x : Cx} {y : Cy} (hy : Inj y) (h : OkM x y cX9_record RX9 2 none rX9_record) (kx1 : Mem → Ans) (hx1 : ∀ M0 : Mem, G x y 85 [(0, .ref (y.2.1 143))] [] M0 (kx1 M0)) : ∀ (n : Nat) (a1 : Int32) (M : Mem), G x y 51 [(0, .ref (y.2.1 143)), (1, .int a1)] [] M (d_X9_record_L51 kx1 n a1 M) := by
  intro n
  induction n with
  | zero => intro a1 M; exact G_none
  | succ n ih => intro a1 M; exact gd_X9_record_L51_body hy h kx1 hx1 _ ih a1 M
set_option maxRecDepth 20000 in
theorem gd_X9_record_B49 {x : Cx} {y : Cy} (hy : Inj y) (h : OkM x y cX9_record RX9 2 none rX9_record) (M : Mem) : G x y 49 [(0, .ref (y.2.1 143))] [] M (d_X9_record_B49 M) := by
  unfold d_X9_record_B49
  refine G_iconst (pc := 49) (v := (0)) h.1 dX9_record_49 (by decide) ?_
  refine G_istore_n (pc := 50) h.1 h.2.1 [(1, .int (0 : Int32)), (0, .ref (y.2.1 143))] dX9_record_50 rfl (by decide) rfl ?_
  refine G_sub [1, 0] rfl (gd_X9_record_L51 hy h _ (fun M3 => ?_) fuelN (0 : Int32) M)
  refine G_aload_n (pc := 85) h.1 dX9_record_85 rfl 0 rfl ?_
  refine G_dup (pc := 86) h.1 dX9_record_86 rfl ?_
  refine G_get (pc := 87) (v := .int (M3 143 2)) h.1 fl_X9_60 lN143 (eM143 _) rfl dX9_record_87 ?_
  refine G_iconst (pc := 90) (v := (1)) h.1 dX9_record_90 (by decide) ?_
  refine G_iadd (pc := 91) h.1 dX9_record_91 ?_
  refine G_put (pc := 92) h.1 fp_X9_60 lN143 (fun m => eM143 m) (fun _ => rfl) (fun _ => Nat.le_of_ble_eq_true rfl) rfl rfl dX9_record_92 (fun M4 => ?_)
  exact G_vret (pc := 95) h dX9_record_95
set_option maxRecDepth 20000 in
theorem gd_X9_record_L10_body {x : Cx} {y : Cy} (hy : Inj y) (h : OkM x y cX9_record RX9 2 none rX9_record) (kx1 : Mem → Ans) (hx1 : ∀ M0 : Mem, G x y 39 [(0, .ref (y.2.1 143))] [] M0 (kx1 M0)) (kb : Int32 → Mem → Ans) (hb : ∀ (b1 : Int32), ∀ M0 : Mem, G x y 10 [(0, .ref (y.2.1 143)), (1, .int b1)] [] M0 (kb b1 M0)) (a1 : Int32) (M : Mem) : G x y 10 [(0, .ref (y.2.1 143)), (1, .int a1)] [] M (d_X9_record_L10_body kx1 kb a1 M) := by
  unfold d_X9_record_L10_body
  refine G_iload_n (pc := 10) h.1 dX9_record_10 rfl 1 rfl ?_
  refine G_sipush (pc := 11) (v := (1098)) h.1 dX9_record_11 (by decide) ?_
  refine G_icmp_ge (pc := 14) (tgt := 39) h.1 dX9_record_14 (by decide) ?_ ?_
  · exact G_sub [0] rfl (hx1 M)
  · refine G_aload_n (pc := 17) h.1 dX9_record_17 rfl 0 rfl ?_
    refine G_get (pc := 18) (v := .ref (y.2.1 145)) h.1 fl_X9_13 lN143 (eM143 _) rfl dX9_record_18 ?_
    refine G_iload_n (pc := 21) h.1 dX9_record_21 rfl 1 rfl ?_
    refine G_aload_n (pc := 22) h.1 dX9_record_22 rfl 0 rfl ?_
    refine G_get (pc := 23) (v := .ref (y.2.1 145)) h.1 fl_X9_13 lN143 (eM143 _) rfl dX9_record_23 ?_
    refine G_iload_n (pc := 26) h.1 dX9_record_26 rfl 1 rfl ?_
    refine G_sipush (pc := 27) (v := (366)) h.1 dX9_record_27 (by decide) ?_
    refine G_iadd (pc := 30) h.1 dX9_record_30 ?_
    refine G_iald (pc := 31) h.1 lN145 (eM145 _) dX9_record_31 ?_
    refine G_iast (pc := 32) h.1 lN145 (fun m => eM145 m) dX9_record_32 (fun M5 => ?_)
    refine G_iinc (pc := 33) (v := a1 + (1)) h.1 h.2.1 (fun v6 => [(1, .int v6), (0, .ref (y.2.1 143))]) dX9_record_33 (by decide) 1 rfl rfl (fun _ => rfl) (fun v6 => ?_)
    refine G_goto (pc := 36) (tgt := 10) h.1 dX9_record_36 (by decide) ?_
    exact G_sub [1, 0] rfl (hb v6 M5)
set_option maxRecDepth 20000 in
theorem gd_X9_record_L10 {x : Cx} {y : Cy} (hy : Inj y) (h : OkM x y cX9_record RX9 2 none rX9_record) (kx1 : Mem → Ans) (hx1 : ∀ M0 : Mem, G x y 39 [(0, .ref (y.2.1 143))] [] M0 (kx1 M0)) : ∀ (n : Nat) (a1 : Int32) (M : Mem), G x y 10 [(0, .ref (y.2.1 143)), (1, .int a1)] [] M (d_X9_record_L10 kx1 n a1 M) := by
  intro n
  induction n with
  | zero => intro a1 M; exact G_none
  | succ n ih => intro a1 M; exact gd_X9_record_L10_body hy h kx1 hx1 _ ih a1 M
set_option maxRecDepth 20000 in
theorem c_X9_record (l : Launch) (y : Cy) (hy : Inj y) (M : Mem) : CT l y yX9_record cX9_record 2 none rX9_record [.ref (y.2.1 143)] M (d_X9_record M) := by
  refine CT_of (by decide) hy (Nat.le_of_ble_eq_true rfl) (fun x hxl h => ?_)
  show G x y 0 [(0, .ref (y.2.1 143))] [] M _
  unfold d_X9_record
  refine G_aload_n (pc := 0) h.1 dX9_record_0 rfl 0 rfl ?_
  refine G_get (pc := 1) (v := .int (M 143 2)) h.1 fl_X9_60 lN143 (eM143 _) rfl dX9_record_1 ?_
  refine G_iconst (pc := 4) (v := (4)) h.1 dX9_record_4 (by decide) ?_
  refine G_icmp_ne (pc := 5) (tgt := 49) h.1 dX9_record_5 (by decide) ?_ ?_
  · exact G_sub [0] rfl (gd_X9_record_B49 hy h M)
  · refine G_iconst (pc := 8) (v := (0)) h.1 dX9_record_8 (by decide) ?_
    refine G_istore_n (pc := 9) h.1 h.2.1 [(1, .int (0 : Int32)), (0, .ref (y.2.1 143))] dX9_record_9 rfl (by decide) rfl ?_
    refine G_sub [1, 0] rfl (gd_X9_record_L10 hy h _ (fun M7 => ?_) fuelN (0 : Int32) M)
    refine G_aload_n (pc := 39) h.1 dX9_record_39 rfl 0 rfl ?_
    refine G_dup (pc := 40) h.1 dX9_record_40 rfl ?_
    refine G_get (pc := 41) (v := .int (M7 143 2)) h.1 fl_X9_60 lN143 (eM143 _) rfl dX9_record_41 ?_
    refine G_iconst (pc := 44) (v := (1)) h.1 dX9_record_44 (by decide) ?_
    refine G_isub (pc := 45) h.1 dX9_record_45 ?_
    refine G_put (pc := 46) h.1 fp_X9_60 lN143 (fun m => eM143 m) (fun _ => rfl) (fun _ => Nat.le_of_ble_eq_true rfl) rfl rfl dX9_record_46 (fun M8 => ?_)
    exact G_sub [0] rfl (gd_X9_record_B49 hy h M8)
theorem dX9_asks_0 : decode cX9_asks 0 = .ok (.aload_n 0, 1) := by decide +kernel
theorem dX9_asks_1 : decode cX9_asks 1 = .ok (.getfield 22, 3) := by decide +kernel
theorem dX9_asks_4 : decode cX9_asks 4 = .ok (.iload_n 1, 1) := by decide +kernel
theorem dX9_asks_5 : decode cX9_asks 5 = .ok (.iaload, 1) := by decide +kernel
theorem dX9_asks_6 : decode cX9_asks 6 = .ok (.iconst 1, 1) := by decide +kernel
theorem dX9_asks_7 : decode cX9_asks 7 = .ok (.if_icmp .gt 22, 3) := by decide +kernel
theorem dX9_asks_10 : decode cX9_asks 10 = .ok (.iload 4, 2) := by decide +kernel
theorem dX9_asks_12 : decode cX9_asks 12 = .ok (.iload_n 3, 1) := by decide +kernel
theorem dX9_asks_13 : decode cX9_asks 13 = .ok (.iload_n 3, 1) := by decide +kernel
theorem dX9_asks_14 : decode cX9_asks 14 = .ok (.aload_n 0, 1) := by decide +kernel
theorem dX9_asks_15 : decode cX9_asks 15 = .ok (.iload_n 2, 1) := by decide +kernel
theorem dX9_asks_16 : decode cX9_asks 16 = .ok (.iconst 2, 1) := by decide +kernel
theorem dX9_asks_17 : decode cX9_asks 17 = .ok (.invokevirtual 63, 3) := by decide +kernel
theorem dX9_asks_20 : decode cX9_asks 20 = .ok (.iadd, 1) := by decide +kernel
theorem dX9_asks_21 : decode cX9_asks 21 = .ok (.iconst 1, 1) := by decide +kernel
theorem dX9_asks_22 : decode cX9_asks 22 = .ok (.isub, 1) := by decide +kernel
theorem dX9_asks_23 : decode cX9_asks 23 = .ok (.invokestatic 52, 3) := by decide +kernel
theorem dX9_asks_26 : decode cX9_asks 26 = .ok (.ifCond .ne 4, 3) := by decide +kernel
theorem dX9_asks_29 : decode cX9_asks 29 = .ok (.return_, 1) := by decide +kernel
theorem dX9_asks_30 : decode cX9_asks 30 = .ok (.aload_n 0, 1) := by decide +kernel
theorem dX9_asks_31 : decode cX9_asks 31 = .ok (.getfield 66, 3) := by decide +kernel
theorem dX9_asks_34 : decode cX9_asks 34 = .ok (.aload_n 0, 1) := by decide +kernel
theorem dX9_asks_35 : decode cX9_asks 35 = .ok (.iload_n 2, 1) := by decide +kernel
theorem dX9_asks_36 : decode cX9_asks 36 = .ok (.iconst 0, 1) := by decide +kernel
theorem dX9_asks_37 : decode cX9_asks 37 = .ok (.invokevirtual 63, 3) := by decide +kernel
theorem dX9_asks_40 : decode cX9_asks 40 = .ok (.isub, 1) := by decide +kernel
theorem dX9_asks_41 : decode cX9_asks 41 = .ok (.istore 5, 2) := by decide +kernel
theorem dX9_asks_43 : decode cX9_asks 43 = .ok (.aload_n 0, 1) := by decide +kernel
theorem dX9_asks_44 : decode cX9_asks 44 = .ok (.getfield 28, 3) := by decide +kernel
theorem dX9_asks_47 : decode cX9_asks 47 = .ok (.iload_n 1, 1) := by decide +kernel
theorem dX9_asks_48 : decode cX9_asks 48 = .ok (.iload 5, 2) := by decide +kernel
theorem dX9_asks_50 : decode cX9_asks 50 = .ok (.aload_n 0, 1) := by decide +kernel
theorem dX9_asks_51 : decode cX9_asks 51 = .ok (.getfield 28, 3) := by decide +kernel
theorem dX9_asks_54 : decode cX9_asks 54 = .ok (.iload_n 1, 1) := by decide +kernel
theorem dX9_asks_55 : decode cX9_asks 55 = .ok (.iaload, 1) := by decide +kernel
theorem dX9_asks_56 : decode cX9_asks 56 = .ok (.if_icmp .ge 8, 3) := by decide +kernel
theorem dX9_asks_59 : decode cX9_asks 59 = .ok (.iload 5, 2) := by decide +kernel
theorem dX9_asks_61 : decode cX9_asks 61 = .ok (.goto 9, 3) := by decide +kernel
theorem dX9_asks_64 : decode cX9_asks 64 = .ok (.aload_n 0, 1) := by decide +kernel
theorem dX9_asks_65 : decode cX9_asks 65 = .ok (.getfield 28, 3) := by decide +kernel
theorem dX9_asks_68 : decode cX9_asks 68 = .ok (.iload_n 1, 1) := by decide +kernel
theorem dX9_asks_69 : decode cX9_asks 69 = .ok (.iaload, 1) := by decide +kernel
theorem dX9_asks_70 : decode cX9_asks 70 = .ok (.iastore, 1) := by decide +kernel
theorem dX9_asks_71 : decode cX9_asks 71 = .ok (.iload 5, 2) := by decide +kernel
theorem dX9_asks_73 : decode cX9_asks 73 = .ok (.ifCond .ge 19, 3) := by decide +kernel
theorem dX9_asks_76 : decode cX9_asks 76 = .ok (.aload_n 0, 1) := by decide +kernel
theorem dX9_asks_77 : decode cX9_asks 77 = .ok (.getfield 22, 3) := by decide +kernel
theorem dX9_asks_80 : decode cX9_asks 80 = .ok (.iload_n 1, 1) := by decide +kernel
theorem dX9_asks_81 : decode cX9_asks 81 = .ok (.iconst 3, 1) := by decide +kernel
theorem dX9_asks_82 : decode cX9_asks 82 = .ok (.iastore, 1) := by decide +kernel
theorem dX9_asks_83 : decode cX9_asks 83 = .ok (.aload_n 0, 1) := by decide +kernel
theorem dX9_asks_84 : decode cX9_asks 84 = .ok (.getfield 25, 3) := by decide +kernel
theorem dX9_asks_87 : decode cX9_asks 87 = .ok (.iload_n 1, 1) := by decide +kernel
theorem dX9_asks_88 : decode cX9_asks 88 = .ok (.iload 4, 2) := by decide +kernel
theorem dX9_asks_90 : decode cX9_asks 90 = .ok (.iastore, 1) := by decide +kernel
theorem dX9_asks_91 : decode cX9_asks 91 = .ok (.return_, 1) := by decide +kernel
theorem dX9_asks_92 : decode cX9_asks 92 = .ok (.aload_n 0, 1) := by decide +kernel
theorem dX9_asks_93 : decode cX9_asks 93 = .ok (.getfield 66, 3) := by decide +kernel
theorem dX9_asks_96 : decode cX9_asks 96 = .ok (.aload_n 0, 1) := by decide +kernel
theorem dX9_asks_97 : decode cX9_asks 97 = .ok (.iload_n 2, 1) := by decide +kernel
theorem dX9_asks_98 : decode cX9_asks 98 = .ok (.iconst 1, 1) := by decide +kernel
theorem dX9_asks_99 : decode cX9_asks 99 = .ok (.invokevirtual 63, 3) := by decide +kernel
theorem dX9_asks_102 : decode cX9_asks 102 = .ok (.isub, 1) := by decide +kernel
theorem dX9_asks_103 : decode cX9_asks 103 = .ok (.istore 6, 2) := by decide +kernel
theorem dX9_asks_105 : decode cX9_asks 105 = .ok (.aload_n 0, 1) := by decide +kernel
theorem dX9_asks_106 : decode cX9_asks 106 = .ok (.iload 6, 2) := by decide +kernel
theorem dX9_asks_108 : decode cX9_asks 108 = .ok (.ifCond .ge 7, 3) := by decide +kernel
theorem dX9_asks_111 : decode cX9_asks 111 = .ok (.iconst 0, 1) := by decide +kernel
theorem dX9_asks_112 : decode cX9_asks 112 = .ok (.goto 5, 3) := by decide +kernel
theorem dX9_asks_115 : decode cX9_asks 115 = .ok (.iload 6, 2) := by decide +kernel
theorem dX9_asks_117 : decode cX9_asks 117 = .ok (.putfield 66, 3) := by decide +kernel
theorem dX9_asks_120 : decode cX9_asks 120 = .ok (.aload_n 0, 1) := by decide +kernel
theorem dX9_asks_121 : decode cX9_asks 121 = .ok (.getfield 22, 3) := by decide +kernel
theorem dX9_asks_124 : decode cX9_asks 124 = .ok (.iload_n 1, 1) := by decide +kernel
theorem dX9_asks_125 : decode cX9_asks 125 = .ok (.iload 4, 2) := by decide +kernel
theorem dX9_asks_127 : decode cX9_asks 127 = .ok (.iload_n 3, 1) := by decide +kernel
theorem dX9_asks_128 : decode cX9_asks 128 = .ok (.aload_n 0, 1) := by decide +kernel
theorem dX9_asks_129 : decode cX9_asks 129 = .ok (.iload_n 2, 1) := by decide +kernel
theorem dX9_asks_130 : decode cX9_asks 130 = .ok (.iconst 2, 1) := by decide +kernel
theorem dX9_asks_131 : decode cX9_asks 131 = .ok (.invokevirtual 63, 3) := by decide +kernel
theorem dX9_asks_134 : decode cX9_asks 134 = .ok (.iadd, 1) := by decide +kernel
theorem dX9_asks_135 : decode cX9_asks 135 = .ok (.iconst 1, 1) := by decide +kernel
theorem dX9_asks_136 : decode cX9_asks 136 = .ok (.isub, 1) := by decide +kernel
theorem dX9_asks_137 : decode cX9_asks 137 = .ok (.if_icmp .ne 7, 3) := by decide +kernel
theorem dX9_asks_140 : decode cX9_asks 140 = .ok (.iconst 2, 1) := by decide +kernel
theorem dX9_asks_141 : decode cX9_asks 141 = .ok (.goto 4, 3) := by decide +kernel
theorem dX9_asks_144 : decode cX9_asks 144 = .ok (.iconst 1, 1) := by decide +kernel
theorem dX9_asks_145 : decode cX9_asks 145 = .ok (.iastore, 1) := by decide +kernel
theorem dX9_asks_146 : decode cX9_asks 146 = .ok (.return_, 1) := by decide +kernel
abbrev rX9_asks : Room := { frames := 1, cells := 0, slots := 0, locals := 22 }
set_option maxRecDepth 20000 in
theorem gd_X9_asks_B117 {x : Cx} {y : Cy} (hy : Inj y) (h : OkM x y cX9_asks RX9 7 none rX9_asks) (a1 : Int32) (a2 : Int32) (a3 : Int32) (a4 : Int32) (s0 : Int32) (M : Mem) : G x y 117 [(0, .ref (y.2.1 143)), (1, .int a1), (2, .int a2), (3, .int a3), (4, .int a4)] [.int s0, .ref (y.2.1 143)] M (d_X9_asks_B117 a1 a2 a3 a4 s0 M) := by
  unfold d_X9_asks_B117
  refine G_put (pc := 117) h.1 fp_X9_66 lN143 (fun m => eM143 m) (fun _ => rfl) (fun _ => Nat.le_of_ble_eq_true rfl) rfl rfl dX9_asks_117 (fun M12 => ?_)
  refine G_aload_n (pc := 120) h.1 dX9_asks_120 rfl 0 rfl ?_
  refine G_get (pc := 121) (v := .ref (y.2.1 148)) h.1 fl_X9_22 lN143 (eM143 _) rfl dX9_asks_121 ?_
  refine G_iload_n (pc := 124) h.1 dX9_asks_124 rfl 1 rfl ?_
  refine G_iload (pc := 125) h.1 dX9_asks_125 4 rfl ?_
  refine G_iload_n (pc := 127) h.1 dX9_asks_127 rfl 3 rfl ?_
  refine G_aload_n (pc := 128) h.1 dX9_asks_128 rfl 0 rfl ?_
  refine G_iload_n (pc := 129) h.1 dX9_asks_129 rfl 2 rfl ?_
  refine G_iconst (pc := 130) (v := (2)) h.1 dX9_asks_130 (by decide) ?_
  refine G_callV (pc := 131) (As := [.int a2, .int (2 : Int32)]) (rest := [.int a3, .int a4, .int a1, .ref (y.2.1 148)]) h.1 h.2.2.1 lk_X9_63 lN143 (eM143 _) rfl rfl (c_X9_ofRecipe x.1.2.1 y hy a2 (2 : Int32) M12) rfl rfl (Nat.le_of_ble_eq_true rfl) ⟨rfl, rfl, Nat.le_of_ble_eq_true rfl, Nat.le_of_ble_eq_true rfl⟩ dX9_asks_131 (fun r14 M13 => ?_)
  refine G_iadd (pc := 134) h.1 dX9_asks_134 ?_
  refine G_iconst (pc := 135) (v := (1)) h.1 dX9_asks_135 (by decide) ?_
  refine G_isub (pc := 136) h.1 dX9_asks_136 ?_
  refine G_icmp_ne (pc := 137) (tgt := 144) h.1 dX9_asks_137 (by decide) ?_ ?_
  · refine G_iconst (pc := 144) (v := (1)) h.1 dX9_asks_144 (by decide) ?_
    refine G_iast (pc := 145) h.1 lN148 (fun m => eM148 m) dX9_asks_145 (fun M15 => ?_)
    exact G_vret (pc := 146) h dX9_asks_146
  · refine G_iconst (pc := 140) (v := (2)) h.1 dX9_asks_140 (by decide) ?_
    refine G_goto (pc := 141) (tgt := 145) h.1 dX9_asks_141 (by decide) ?_
    refine G_iast (pc := 145) h.1 lN148 (fun m => eM148 m) dX9_asks_145 (fun M16 => ?_)
    exact G_vret (pc := 146) h dX9_asks_146
set_option maxRecDepth 20000 in
theorem gd_X9_asks_B70 {x : Cx} {y : Cy} (hy : Inj y) (h : OkM x y cX9_asks RX9 7 none rX9_asks) (a1 : Int32) (a2 : Int32) (a3 : Int32) (a4 : Int32) (a5 : Int32) (s0 : Int32) (s1 : Int32) (M : Mem) : G x y 70 [(0, .ref (y.2.1 143)), (1, .int a1), (2, .int a2), (3, .int a3), (4, .int a4), (5, .int a5)] [.int s0, .int s1, .ref (y.2.1 150)] M (d_X9_asks_B70 a1 a2 a3 a4 a5 s0 s1 M) := by
  unfold d_X9_asks_B70
  refine G_iast (pc := 70) h.1 lN150 (fun m => eM150 m) dX9_asks_70 (fun M8 => ?_)
  refine G_iload (pc := 71) h.1 dX9_asks_71 5 rfl ?_
  refine G_if_ge (pc := 73) (tgt := 92) h.1 dX9_asks_73 (by decide) ?_ ?_
  · refine G_aload_n (pc := 92) h.1 dX9_asks_92 rfl 0 rfl ?_
    refine G_get (pc := 93) (v := .int (M8 143 10)) h.1 fl_X9_66 lN143 (eM143 _) rfl dX9_asks_93 ?_
    refine G_aload_n (pc := 96) h.1 dX9_asks_96 rfl 0 rfl ?_
    refine G_iload_n (pc := 97) h.1 dX9_asks_97 rfl 2 rfl ?_
    refine G_iconst (pc := 98) (v := (1)) h.1 dX9_asks_98 (by decide) ?_
    refine G_callV (pc := 99) (As := [.int a2, .int (1 : Int32)]) (rest := [.int (M8 143 10)]) h.1 h.2.2.1 lk_X9_63 lN143 (eM143 _) rfl rfl (c_X9_ofRecipe x.1.2.1 y hy a2 (1 : Int32) M8) rfl rfl (Nat.le_of_ble_eq_true rfl) ⟨rfl, rfl, Nat.le_of_ble_eq_true rfl, Nat.le_of_ble_eq_true rfl⟩ dX9_asks_99 (fun r10 M9 => ?_)
    refine G_isub (pc := 102) h.1 dX9_asks_102 ?_
    refine G_top (fun v11 => ?_)
    refine G_istore (pc := 103) h.1 h.2.1 [(6, .int v11), (0, .ref (y.2.1 143)), (1, .int a1), (2, .int a2), (3, .int a3), (4, .int a4), (5, .int a5)] dX9_asks_103 (by decide) rfl ?_
    refine G_aload_n (pc := 105) h.1 dX9_asks_105 rfl 1 rfl ?_
    refine G_iload (pc := 106) h.1 dX9_asks_106 0 rfl ?_
    refine G_if_ge (pc := 108) (tgt := 115) h.1 dX9_asks_108 (by decide) ?_ ?_
    · refine G_iload (pc := 115) h.1 dX9_asks_115 0 rfl ?_
      exact G_sub [1, 2, 3, 4, 5] rfl (gd_X9_asks_B117 hy h a1 a2 a3 a4 v11 M9)
    · refine G_iconst (pc := 111) (v := (0)) h.1 dX9_asks_111 (by decide) ?_
      refine G_goto (pc := 112) (tgt := 117) h.1 dX9_asks_112 (by decide) ?_
      exact G_sub [1, 2, 3, 4, 5] rfl (gd_X9_asks_B117 hy h a1 a2 a3 a4 (0 : Int32) M9)
  · refine G_aload_n (pc := 76) h.1 dX9_asks_76 rfl 0 rfl ?_
    refine G_get (pc := 77) (v := .ref (y.2.1 148)) h.1 fl_X9_22 lN143 (eM143 _) rfl dX9_asks_77 ?_
    refine G_iload_n (pc := 80) h.1 dX9_asks_80 rfl 1 rfl ?_
    refine G_iconst (pc := 81) (v := (3)) h.1 dX9_asks_81 (by decide) ?_
    refine G_iast (pc := 82) h.1 lN148 (fun m => eM148 m) dX9_asks_82 (fun M17 => ?_)
    refine G_aload_n (pc := 83) h.1 dX9_asks_83 rfl 0 rfl ?_
    refine G_get (pc := 84) (v := .ref (y.2.1 149)) h.1 fl_X9_25 lN143 (eM143 _) rfl dX9_asks_84 ?_
    refine G_iload_n (pc := 87) h.1 dX9_asks_87 rfl 1 rfl ?_
    refine G_iload (pc := 88) h.1 dX9_asks_88 4 rfl ?_
    refine G_iast (pc := 90) h.1 lN149 (fun m => eM149 m) dX9_asks_90 (fun M18 => ?_)
    exact G_vret (pc := 91) h dX9_asks_91
set_option maxRecDepth 20000 in
theorem c_X9_asks (l : Launch) (y : Cy) (hy : Inj y) (p1 : Int32) (p2 : Int32) (p3 : Int32) (p4 : Int32) (M : Mem) : CT l y yX9_asks cX9_asks 7 none rX9_asks [.ref (y.2.1 143), .int p1, .int p2, .int p3, .int p4] M (d_X9_asks p1 p2 p3 p4 M) := by
  refine CT_of (by decide) hy (Nat.le_of_ble_eq_true rfl) (fun x hxl h => ?_)
  show G x y 0 [(0, .ref (y.2.1 143)), (1, .int p1), (2, .int p2), (3, .int p3), (4, .int p4)] [] M _
  unfold d_X9_asks
  refine G_aload_n (pc := 0) h.1 dX9_asks_0 rfl 0 rfl ?_
  refine G_get (pc := 1) (v := .ref (y.2.1 148)) h.1 fl_X9_22 lN143 (eM143 _) rfl dX9_asks_1 ?_
  refine G_iload_n (pc := 4) h.1 dX9_asks_4 rfl 1 rfl ?_
  refine G_iald (pc := 5) h.1 lN148 (eM148 _) dX9_asks_5 ?_
  refine G_iconst (pc := 6) (v := (1)) h.1 dX9_asks_6 (by decide) ?_
  refine G_icmp_gt (pc := 7) (tgt := 29) h.1 dX9_asks_7 (by decide) ?_ ?_
  · exact G_vret (pc := 29) h dX9_asks_29
  · refine G_iload (pc := 10) h.1 dX9_asks_10 4 rfl ?_
    refine G_iload_n (pc := 12) h.1 dX9_asks_12 rfl 3 rfl ?_
    refine G_iload_n (pc := 13) h.1 dX9_asks_13 rfl 3 rfl ?_
    refine G_aload_n (pc := 14) h.1 dX9_asks_14 rfl 0 rfl ?_
    refine G_iload_n (pc := 15) h.1 dX9_asks_15 rfl 2 rfl ?_
    refine G_iconst (pc := 16) (v := (2)) h.1 dX9_asks_16 (by decide) ?_
    refine G_callV (pc := 17) (As := [.int p2, .int (2 : Int32)]) (rest := [.int p3, .int p3, .int p4]) h.1 h.2.2.1 lk_X9_63 lN143 (eM143 _) rfl rfl (c_X9_ofRecipe x.1.2.1 y hy p2 (2 : Int32) M) rfl rfl (Nat.le_of_ble_eq_true rfl) ⟨rfl, rfl, Nat.le_of_ble_eq_true rfl, Nat.le_of_ble_eq_true rfl⟩ dX9_asks_17 (fun r2 M1 => ?_)
    refine G_iadd (pc := 20) h.1 dX9_asks_20 ?_
    refine G_iconst (pc := 21) (v := (1)) h.1 dX9_asks_21 (by decide) ?_
    refine G_isub (pc := 22) h.1 dX9_asks_22 ?_
    refine G_callS (pc := 23) (As := [.int p4, .int p3, .int ((p3 + r2) - (1 : Int32))]) (rest := []) h.1 h.2.2.1 lk_X9_52 (c_X9_in x.1.2.1 y hy p4 p3 ((p3 + r2) - (1 : Int32)) M1) rfl rfl (Nat.le_of_ble_eq_true rfl) ⟨rfl, rfl, Nat.le_of_ble_eq_true rfl, Nat.le_of_ble_eq_true rfl⟩ dX9_asks_23 (fun r4 M3 => ?_)
    refine G_if_ne (pc := 26) (tgt := 30) h.1 dX9_asks_26 (by decide) ?_ ?_
    · refine G_aload_n (pc := 30) h.1 dX9_asks_30 rfl 0 rfl ?_
      refine G_get (pc := 31) (v := .int (M3 143 10)) h.1 fl_X9_66 lN143 (eM143 _) rfl dX9_asks_31 ?_
      refine G_aload_n (pc := 34) h.1 dX9_asks_34 rfl 0 rfl ?_
      refine G_iload_n (pc := 35) h.1 dX9_asks_35 rfl 2 rfl ?_
      refine G_iconst (pc := 36) (v := (0)) h.1 dX9_asks_36 (by decide) ?_
      refine G_callV (pc := 37) (As := [.int p2, .int (0 : Int32)]) (rest := [.int (M3 143 10)]) h.1 h.2.2.1 lk_X9_63 lN143 (eM143 _) rfl rfl (c_X9_ofRecipe x.1.2.1 y hy p2 (0 : Int32) M3) rfl rfl (Nat.le_of_ble_eq_true rfl) ⟨rfl, rfl, Nat.le_of_ble_eq_true rfl, Nat.le_of_ble_eq_true rfl⟩ dX9_asks_37 (fun r6 M5 => ?_)
      refine G_isub (pc := 40) h.1 dX9_asks_40 ?_
      refine G_top (fun v7 => ?_)
      refine G_istore (pc := 41) h.1 h.2.1 [(5, .int v7), (0, .ref (y.2.1 143)), (1, .int p1), (2, .int p2), (3, .int p3), (4, .int p4)] dX9_asks_41 (by decide) rfl ?_
      refine G_aload_n (pc := 43) h.1 dX9_asks_43 rfl 1 rfl ?_
      refine G_get (pc := 44) (v := .ref (y.2.1 150)) h.1 fl_X9_28 lN143 (eM143 _) rfl dX9_asks_44 ?_
      refine G_iload_n (pc := 47) h.1 dX9_asks_47 rfl 2 rfl ?_
      refine G_iload (pc := 48) h.1 dX9_asks_48 0 rfl ?_
      refine G_aload_n (pc := 50) h.1 dX9_asks_50 rfl 1 rfl ?_
      refine G_get (pc := 51) (v := .ref (y.2.1 150)) h.1 fl_X9_28 lN143 (eM143 _) rfl dX9_asks_51 ?_
      refine G_iload_n (pc := 54) h.1 dX9_asks_54 rfl 2 rfl ?_
      refine G_iald (pc := 55) h.1 lN150 (eM150 _) dX9_asks_55 ?_
      refine G_icmp_ge (pc := 56) (tgt := 64) h.1 dX9_asks_56 (by decide) ?_ ?_
      · refine G_aload_n (pc := 64) h.1 dX9_asks_64 rfl 1 rfl ?_
        refine G_get (pc := 65) (v := .ref (y.2.1 150)) h.1 fl_X9_28 lN143 (eM143 _) rfl dX9_asks_65 ?_
        refine G_iload_n (pc := 68) h.1 dX9_asks_68 rfl 2 rfl ?_
        refine G_iald (pc := 69) h.1 lN150 (eM150 _) dX9_asks_69 ?_
        exact G_sub [1, 2, 3, 4, 5, 0] rfl (gd_X9_asks_B70 hy h p1 p2 p3 p4 v7 (M5 150 (p1).toNatClampNeg) p1 M5)
      · refine G_iload (pc := 59) h.1 dX9_asks_59 0 rfl ?_
        refine G_goto (pc := 61) (tgt := 70) h.1 dX9_asks_61 (by decide) ?_
        exact G_sub [1, 2, 3, 4, 5, 0] rfl (gd_X9_asks_B70 hy h p1 p2 p3 p4 v7 v7 p1 M5)
    · exact G_vret (pc := 29) h dX9_asks_29
theorem dX9_begins_0 : decode cX9_begins 0 = .ok (.aload_n 0, 1) := by decide +kernel
theorem dX9_begins_1 : decode cX9_begins 1 = .ok (.aload_n 0, 1) := by decide +kernel
theorem dX9_begins_2 : decode cX9_begins 2 = .ok (.getfield 7, 3) := by decide +kernel
theorem dX9_begins_5 : decode cX9_begins 5 = .ok (.iconst 1, 1) := by decide +kernel
theorem dX9_begins_6 : decode cX9_begins 6 = .ok (.iaload, 1) := by decide +kernel
theorem dX9_begins_7 : decode cX9_begins 7 = .ok (.putfield 66, 3) := by decide +kernel
theorem dX9_begins_10 : decode cX9_begins 10 = .ok (.iconst 0, 1) := by decide +kernel
theorem dX9_begins_11 : decode cX9_begins 11 = .ok (.istore_n 1, 1) := by decide +kernel
theorem dX9_begins_12 : decode cX9_begins 12 = .ok (.iload_n 1, 1) := by decide +kernel
theorem dX9_begins_13 : decode cX9_begins 13 = .ok (.bipush 60, 2) := by decide +kernel
theorem dX9_begins_15 : decode cX9_begins 15 = .ok (.if_icmp .gt 50, 3) := by decide +kernel
theorem dX9_begins_18 : decode cX9_begins 18 = .ok (.aload_n 0, 1) := by decide +kernel
theorem dX9_begins_19 : decode cX9_begins 19 = .ok (.getfield 22, 3) := by decide +kernel
theorem dX9_begins_22 : decode cX9_begins 22 = .ok (.iload_n 1, 1) := by decide +kernel
theorem dX9_begins_23 : decode cX9_begins 23 = .ok (.iload_n 1, 1) := by decide +kernel
theorem dX9_begins_24 : decode cX9_begins 24 = .ok (.aload_n 0, 1) := by decide +kernel
theorem dX9_begins_25 : decode cX9_begins 25 = .ok (.getfield 7, 3) := by decide +kernel
theorem dX9_begins_28 : decode cX9_begins 28 = .ok (.iconst 5, 1) := by decide +kernel
theorem dX9_begins_29 : decode cX9_begins 29 = .ok (.iaload, 1) := by decide +kernel
theorem dX9_begins_30 : decode cX9_begins 30 = .ok (.if_icmp .ge 12, 3) := by decide +kernel
theorem dX9_begins_33 : decode cX9_begins 33 = .ok (.aload_n 0, 1) := by decide +kernel
theorem dX9_begins_34 : decode cX9_begins 34 = .ok (.iload_n 1, 1) := by decide +kernel
theorem dX9_begins_35 : decode cX9_begins 35 = .ok (.iconst 3, 1) := by decide +kernel
theorem dX9_begins_36 : decode cX9_begins 36 = .ok (.invokevirtual 56, 3) := by decide +kernel
theorem dX9_begins_39 : decode cX9_begins 39 = .ok (.goto 4, 3) := by decide +kernel
theorem dX9_begins_42 : decode cX9_begins 42 = .ok (.iconst 0, 1) := by decide +kernel
theorem dX9_begins_43 : decode cX9_begins 43 = .ok (.iastore, 1) := by decide +kernel
theorem dX9_begins_44 : decode cX9_begins 44 = .ok (.aload_n 0, 1) := by decide +kernel
theorem dX9_begins_45 : decode cX9_begins 45 = .ok (.getfield 25, 3) := by decide +kernel
theorem dX9_begins_48 : decode cX9_begins 48 = .ok (.iload_n 1, 1) := by decide +kernel
theorem dX9_begins_49 : decode cX9_begins 49 = .ok (.iconst 0, 1) := by decide +kernel
theorem dX9_begins_50 : decode cX9_begins 50 = .ok (.iastore, 1) := by decide +kernel
theorem dX9_begins_51 : decode cX9_begins 51 = .ok (.aload_n 0, 1) := by decide +kernel
theorem dX9_begins_52 : decode cX9_begins 52 = .ok (.getfield 28, 3) := by decide +kernel
theorem dX9_begins_55 : decode cX9_begins 55 = .ok (.iload_n 1, 1) := by decide +kernel
theorem dX9_begins_56 : decode cX9_begins 56 = .ok (.ldc 69, 2) := by decide +kernel
theorem dX9_begins_58 : decode cX9_begins 58 = .ok (.iastore, 1) := by decide +kernel
theorem dX9_begins_59 : decode cX9_begins 59 = .ok (.iinc 1 1, 3) := by decide +kernel
theorem dX9_begins_62 : decode cX9_begins 62 = .ok (.goto (-50), 3) := by decide +kernel
theorem dX9_begins_65 : decode cX9_begins 65 = .ok (.return_, 1) := by decide +kernel
abbrev rX9_begins : Room := { frames := 1, cells := 0, slots := 0, locals := 22 }
set_option maxRecDepth 20000 in
theorem gd_X9_begins_B43 {x : Cx} {y : Cy} (hy : Inj y) (h : OkM x y cX9_begins RX9 2 none rX9_begins) (kx1 : Mem → Ans) (kb : Int32 → Mem → Ans) (a1 : Int32) (s0 : Int32) (s1 : Int32) (hx1 : ∀ M0 : Mem, G x y 65 [] [] M0 (kx1 M0)) (hb : ∀ (b1 : Int32), ∀ M0 : Mem, G x y 12 [(0, .ref (y.2.1 143)), (1, .int b1)] [] M0 (kb b1 M0)) (M : Mem) : G x y 43 [(0, .ref (y.2.1 143)), (1, .int a1)] [.int s0, .int s1, .ref (y.2.1 148)] M (d_X9_begins_B43 kx1 kb a1 s0 s1 M) := by
  unfold d_X9_begins_B43
  refine G_iast (pc := 43) h.1 lN148 (fun m => eM148 m) dX9_begins_43 (fun M2 => ?_)
  refine G_aload_n (pc := 44) h.1 dX9_begins_44 rfl 0 rfl ?_
  refine G_get (pc := 45) (v := .ref (y.2.1 149)) h.1 fl_X9_25 lN143 (eM143 _) rfl dX9_begins_45 ?_
  refine G_iload_n (pc := 48) h.1 dX9_begins_48 rfl 1 rfl ?_
  refine G_iconst (pc := 49) (v := (0)) h.1 dX9_begins_49 (by decide) ?_
  refine G_iast (pc := 50) h.1 lN149 (fun m => eM149 m) dX9_begins_50 (fun M3 => ?_)
  refine G_aload_n (pc := 51) h.1 dX9_begins_51 rfl 0 rfl ?_
  refine G_get (pc := 52) (v := .ref (y.2.1 150)) h.1 fl_X9_28 lN143 (eM143 _) rfl dX9_begins_52 ?_
  refine G_iload_n (pc := 55) h.1 dX9_begins_55 rfl 1 rfl ?_
  refine G_ldc (pc := 56) h.1 dX9_begins_56 ct_X9_69 ?_
  refine G_iast (pc := 58) h.1 lN150 (fun m => eM150 m) dX9_begins_58 (fun M4 => ?_)
  refine G_iinc (pc := 59) (v := a1 + (1)) h.1 h.2.1 (fun v5 => [(1, .int v5), (0, .ref (y.2.1 143))]) dX9_begins_59 (by decide) 1 rfl rfl (fun _ => rfl) (fun v5 => ?_)
  refine G_goto (pc := 62) (tgt := 12) h.1 dX9_begins_62 (by decide) ?_
  exact G_sub [1, 0] rfl (hb v5 M4)
set_option maxRecDepth 20000 in
theorem gd_X9_begins_L12_body {x : Cx} {y : Cy} (hy : Inj y) (h : OkM x y cX9_begins RX9 2 none rX9_begins) (kx1 : Mem → Ans) (hx1 : ∀ M0 : Mem, G x y 65 [] [] M0 (kx1 M0)) (kb : Int32 → Mem → Ans) (hb : ∀ (b1 : Int32), ∀ M0 : Mem, G x y 12 [(0, .ref (y.2.1 143)), (1, .int b1)] [] M0 (kb b1 M0)) (a1 : Int32) (M : Mem) : G x y 12 [(0, .ref (y.2.1 143)), (1, .int a1)] [] M (d_X9_begins_L12_body kx1 kb a1 M) := by
  unfold d_X9_begins_L12_body
  refine G_iload_n (pc := 12) h.1 dX9_begins_12 rfl 1 rfl ?_
  refine G_bipush (pc := 13) (v := (60)) h.1 dX9_begins_13 (by decide) ?_
  refine G_icmp_gt (pc := 15) (tgt := 65) h.1 dX9_begins_15 (by decide) ?_ ?_
  · exact G_sub [] rfl (hx1 M)
  · refine G_aload_n (pc := 18) h.1 dX9_begins_18 rfl 0 rfl ?_
    refine G_get (pc := 19) (v := .ref (y.2.1 148)) h.1 fl_X9_22 lN143 (eM143 _) rfl dX9_begins_19 ?_
    refine G_iload_n (pc := 22) h.1 dX9_begins_22 rfl 1 rfl ?_
    refine G_iload_n (pc := 23) h.1 dX9_begins_23 rfl 1 rfl ?_
    refine G_aload_n (pc := 24) h.1 dX9_begins_24 rfl 0 rfl ?_
    refine G_get (pc := 25) (v := .ref (y.2.1 144)) h.1 fl_X9_7 lN143 (eM143 _) rfl dX9_begins_25 ?_
    refine G_iconst (pc := 28) (v := (5)) h.1 dX9_begins_28 (by decide) ?_
    refine G_iald (pc := 29) h.1 lN144 (eM144 _) dX9_begins_29 ?_
    refine G_icmp_ge (pc := 30) (tgt := 42) h.1 dX9_begins_30 (by decide) ?_ ?_
    · refine G_iconst (pc := 42) (v := (0)) h.1 dX9_begins_42 (by decide) ?_
      exact G_sub [0, 1] rfl (gd_X9_begins_B43 hy h kx1 kb a1 (0 : Int32) a1 hx1 hb M)
    · refine G_aload_n (pc := 33) h.1 dX9_begins_33 rfl 0 rfl ?_
      refine G_iload_n (pc := 34) h.1 dX9_begins_34 rfl 1 rfl ?_
      refine G_iconst (pc := 35) (v := (3)) h.1 dX9_begins_35 (by decide) ?_
      refine G_callV (pc := 36) (As := [.int a1, .int (3 : Int32)]) (rest := [.int a1, .ref (y.2.1 148)]) h.1 h.2.2.1 lk_X9_56 lN143 (eM143 _) rfl rfl (c_X9_of x.1.2.1 y hy a1 (3 : Int32) M) rfl rfl (Nat.le_of_ble_eq_true rfl) ⟨rfl, rfl, Nat.le_of_ble_eq_true rfl, Nat.le_of_ble_eq_true rfl⟩ dX9_begins_36 (fun r7 M6 => ?_)
      refine G_goto (pc := 39) (tgt := 43) h.1 dX9_begins_39 (by decide) ?_
      exact G_sub [0, 1] rfl (gd_X9_begins_B43 hy h kx1 kb a1 r7 a1 hx1 hb M6)
set_option maxRecDepth 20000 in
theorem gd_X9_begins_L12 {x : Cx} {y : Cy} (hy : Inj y) (h : OkM x y cX9_begins RX9 2 none rX9_begins) (kx1 : Mem → Ans) (hx1 : ∀ M0 : Mem, G x y 65 [] [] M0 (kx1 M0)) : ∀ (n : Nat) (a1 : Int32) (M : Mem), G x y 12 [(0, .ref (y.2.1 143)), (1, .int a1)] [] M (d_X9_begins_L12 kx1 n a1 M) := by
  intro n
  induction n with
  | zero => intro a1 M; exact G_none
  | succ n ih => intro a1 M; exact gd_X9_begins_L12_body hy h kx1 hx1 _ ih a1 M
set_option maxRecDepth 20000 in
theorem c_X9_begins (l : Launch) (y : Cy) (hy : Inj y) (M : Mem) : CT l y yX9_begins cX9_begins 2 none rX9_begins [.ref (y.2.1 143)] M (d_X9_begins M) := by
  refine CT_of (by decide) hy (Nat.le_of_ble_eq_true rfl) (fun x hxl h => ?_)
  show G x y 0 [(0, .ref (y.2.1 143))] [] M _
  unfold d_X9_begins
  refine G_aload_n (pc := 0) h.1 dX9_begins_0 rfl 0 rfl ?_
  refine G_aload_n (pc := 1) h.1 dX9_begins_1 rfl 0 rfl ?_
  refine G_get (pc := 2) (v := .ref (y.2.1 144)) h.1 fl_X9_7 lN143 (eM143 _) rfl dX9_begins_2 ?_
  refine G_iconst (pc := 5) (v := (1)) h.1 dX9_begins_5 (by decide) ?_
  refine G_iald (pc := 6) h.1 lN144 (eM144 _) dX9_begins_6 ?_
  refine G_put (pc := 7) h.1 fp_X9_66 lN143 (fun m => eM143 m) (fun _ => rfl) (fun _ => Nat.le_of_ble_eq_true rfl) rfl rfl dX9_begins_7 (fun M1 => ?_)
  refine G_iconst (pc := 10) (v := (0)) h.1 dX9_begins_10 (by decide) ?_
  refine G_istore_n (pc := 11) h.1 h.2.1 [(1, .int (0 : Int32)), (0, .ref (y.2.1 143))] dX9_begins_11 rfl (by decide) rfl ?_
  refine G_sub [1, 0] rfl (gd_X9_begins_L12 hy h _ (fun M8 => ?_) fuelN (0 : Int32) M1)
  exact G_vret (pc := 65) h dX9_begins_65
theorem dX9_foresees_0 : decode cX9_foresees 0 = .ok (.aload_n 0, 1) := by decide +kernel
theorem dX9_foresees_1 : decode cX9_foresees 1 = .ok (.dup, 1) := by decide +kernel
theorem dX9_foresees_2 : decode cX9_foresees 2 = .ok (.getfield 66, 3) := by decide +kernel
theorem dX9_foresees_5 : decode cX9_foresees 5 = .ok (.aload_n 0, 1) := by decide +kernel
theorem dX9_foresees_6 : decode cX9_foresees 6 = .ok (.getfield 7, 3) := by decide +kernel
theorem dX9_foresees_9 : decode cX9_foresees 9 = .ok (.iconst 3, 1) := by decide +kernel
theorem dX9_foresees_10 : decode cX9_foresees 10 = .ok (.iaload, 1) := by decide +kernel
theorem dX9_foresees_11 : decode cX9_foresees 11 = .ok (.iadd, 1) := by decide +kernel
theorem dX9_foresees_12 : decode cX9_foresees 12 = .ok (.putfield 66, 3) := by decide +kernel
theorem dX9_foresees_15 : decode cX9_foresees 15 = .ok (.aload_n 0, 1) := by decide +kernel
theorem dX9_foresees_16 : decode cX9_foresees 16 = .ok (.aload_n 0, 1) := by decide +kernel
theorem dX9_foresees_17 : decode cX9_foresees 17 = .ok (.getfield 66, 3) := by decide +kernel
theorem dX9_foresees_20 : decode cX9_foresees 20 = .ok (.aload_n 0, 1) := by decide +kernel
theorem dX9_foresees_21 : decode cX9_foresees 21 = .ok (.getfield 7, 3) := by decide +kernel
theorem dX9_foresees_24 : decode cX9_foresees 24 = .ok (.iconst 2, 1) := by decide +kernel
theorem dX9_foresees_25 : decode cX9_foresees 25 = .ok (.iaload, 1) := by decide +kernel
theorem dX9_foresees_26 : decode cX9_foresees 26 = .ok (.if_icmp .le 12, 3) := by decide +kernel
theorem dX9_foresees_29 : decode cX9_foresees 29 = .ok (.aload_n 0, 1) := by decide +kernel
theorem dX9_foresees_30 : decode cX9_foresees 30 = .ok (.getfield 7, 3) := by decide +kernel
theorem dX9_foresees_33 : decode cX9_foresees 33 = .ok (.iconst 2, 1) := by decide +kernel
theorem dX9_foresees_34 : decode cX9_foresees 34 = .ok (.iaload, 1) := by decide +kernel
theorem dX9_foresees_35 : decode cX9_foresees 35 = .ok (.goto 7, 3) := by decide +kernel
theorem dX9_foresees_38 : decode cX9_foresees 38 = .ok (.aload_n 0, 1) := by decide +kernel
theorem dX9_foresees_39 : decode cX9_foresees 39 = .ok (.getfield 66, 3) := by decide +kernel
theorem dX9_foresees_42 : decode cX9_foresees 42 = .ok (.putfield 66, 3) := by decide +kernel
theorem dX9_foresees_45 : decode cX9_foresees 45 = .ok (.iconst 0, 1) := by decide +kernel
theorem dX9_foresees_46 : decode cX9_foresees 46 = .ok (.istore_n 2, 1) := by decide +kernel
theorem dX9_foresees_47 : decode cX9_foresees 47 = .ok (.iload_n 2, 1) := by decide +kernel
theorem dX9_foresees_48 : decode cX9_foresees 48 = .ok (.aload_n 0, 1) := by decide +kernel
theorem dX9_foresees_49 : decode cX9_foresees 49 = .ok (.getfield 7, 3) := by decide +kernel
theorem dX9_foresees_52 : decode cX9_foresees 52 = .ok (.iconst 5, 1) := by decide +kernel
theorem dX9_foresees_53 : decode cX9_foresees 53 = .ok (.iaload, 1) := by decide +kernel
theorem dX9_foresees_54 : decode cX9_foresees 54 = .ok (.if_icmp .ge 50, 3) := by decide +kernel
theorem dX9_foresees_57 : decode cX9_foresees 57 = .ok (.iload_n 2, 1) := by decide +kernel
theorem dX9_foresees_58 : decode cX9_foresees 58 = .ok (.aload_n 0, 1) := by decide +kernel
theorem dX9_foresees_59 : decode cX9_foresees 59 = .ok (.getfield 38, 3) := by decide +kernel
theorem dX9_foresees_62 : decode cX9_foresees 62 = .ok (.if_icmp .eq 36, 3) := by decide +kernel
theorem dX9_foresees_65 : decode cX9_foresees 65 = .ok (.aload_n 0, 1) := by decide +kernel
theorem dX9_foresees_66 : decode cX9_foresees 66 = .ok (.iload_n 2, 1) := by decide +kernel
theorem dX9_foresees_67 : decode cX9_foresees 67 = .ok (.aload_n 0, 1) := by decide +kernel
theorem dX9_foresees_68 : decode cX9_foresees 68 = .ok (.iload_n 2, 1) := by decide +kernel
theorem dX9_foresees_69 : decode cX9_foresees 69 = .ok (.iconst 1, 1) := by decide +kernel
theorem dX9_foresees_70 : decode cX9_foresees 70 = .ok (.invokevirtual 56, 3) := by decide +kernel
theorem dX9_foresees_73 : decode cX9_foresees 73 = .ok (.iload_n 2, 1) := by decide +kernel
theorem dX9_foresees_74 : decode cX9_foresees 74 = .ok (.aload_n 0, 1) := by decide +kernel
theorem dX9_foresees_75 : decode cX9_foresees 75 = .ok (.getfield 41, 3) := by decide +kernel
theorem dX9_foresees_78 : decode cX9_foresees 78 = .ok (.if_icmp .ne 10, 3) := by decide +kernel
theorem dX9_foresees_81 : decode cX9_foresees 81 = .ok (.aload_n 0, 1) := by decide +kernel
theorem dX9_foresees_82 : decode cX9_foresees 82 = .ok (.getfield 70, 3) := by decide +kernel
theorem dX9_foresees_85 : decode cX9_foresees 85 = .ok (.goto 9, 3) := by decide +kernel
theorem dX9_foresees_88 : decode cX9_foresees 88 = .ok (.aload_n 0, 1) := by decide +kernel
theorem dX9_foresees_89 : decode cX9_foresees 89 = .ok (.iload_n 2, 1) := by decide +kernel
theorem dX9_foresees_90 : decode cX9_foresees 90 = .ok (.iconst 2, 1) := by decide +kernel
theorem dX9_foresees_91 : decode cX9_foresees 91 = .ok (.invokevirtual 56, 3) := by decide +kernel
theorem dX9_foresees_94 : decode cX9_foresees 94 = .ok (.iload_n 1, 1) := by decide +kernel
theorem dX9_foresees_95 : decode cX9_foresees 95 = .ok (.invokevirtual 73, 3) := by decide +kernel
theorem dX9_foresees_98 : decode cX9_foresees 98 = .ok (.iinc 2 1, 3) := by decide +kernel
theorem dX9_foresees_101 : decode cX9_foresees 101 = .ok (.goto (-54), 3) := by decide +kernel
theorem dX9_foresees_104 : decode cX9_foresees 104 = .ok (.aload_n 0, 1) := by decide +kernel
theorem dX9_foresees_105 : decode cX9_foresees 105 = .ok (.getfield 34, 3) := by decide +kernel
theorem dX9_foresees_108 : decode cX9_foresees 108 = .ok (.ifCond .lt 18, 3) := by decide +kernel
theorem dX9_foresees_111 : decode cX9_foresees 111 = .ok (.aload_n 0, 1) := by decide +kernel
theorem dX9_foresees_112 : decode cX9_foresees 112 = .ok (.bipush 60, 2) := by decide +kernel
theorem dX9_foresees_114 : decode cX9_foresees 114 = .ok (.aload_n 0, 1) := by decide +kernel
theorem dX9_foresees_115 : decode cX9_foresees 115 = .ok (.getfield 34, 3) := by decide +kernel
theorem dX9_foresees_118 : decode cX9_foresees 118 = .ok (.aload_n 0, 1) := by decide +kernel
theorem dX9_foresees_119 : decode cX9_foresees 119 = .ok (.getfield 77, 3) := by decide +kernel
theorem dX9_foresees_122 : decode cX9_foresees 122 = .ok (.iload_n 1, 1) := by decide +kernel
theorem dX9_foresees_123 : decode cX9_foresees 123 = .ok (.invokevirtual 73, 3) := by decide +kernel
theorem dX9_foresees_126 : decode cX9_foresees 126 = .ok (.return_, 1) := by decide +kernel
abbrev rX9_foresees : Room := { frames := 2, cells := 0, slots := 0, locals := 48 }
set_option maxRecDepth 20000 in
theorem gd_X9_foresees_B98 {x : Cx} {y : Cy} (hy : Inj y) (h : OkM x y cX9_foresees RX9 3 none rX9_foresees) (kx1 : Mem → Ans) (kb : Int32 → Mem → Ans) (a1 : Int32) (a2 : Int32) (hx1 : ∀ M0 : Mem, G x y 104 [(0, .ref (y.2.1 143)), (1, .int a1)] [] M0 (kx1 M0)) (hb : ∀ (b2 : Int32), ∀ M0 : Mem, G x y 47 [(0, .ref (y.2.1 143)), (1, .int a1), (2, .int b2)] [] M0 (kb b2 M0)) (M : Mem) : G x y 98 [(0, .ref (y.2.1 143)), (1, .int a1), (2, .int a2)] [] M (d_X9_foresees_B98 kx1 kb a1 a2 M) := by
  unfold d_X9_foresees_B98
  refine G_iinc (pc := 98) (v := a2 + (1)) h.1 h.2.1 (fun v3 => [(2, .int v3), (0, .ref (y.2.1 143)), (1, .int a1)]) dX9_foresees_98 (by decide) 2 rfl rfl (fun _ => rfl) (fun v3 => ?_)
  refine G_goto (pc := 101) (tgt := 47) h.1 dX9_foresees_101 (by decide) ?_
  exact G_sub [1, 2, 0] rfl (hb v3 M)
set_option maxRecDepth 20000 in
theorem gd_X9_foresees_B94 {x : Cx} {y : Cy} (hy : Inj y) (h : OkM x y cX9_foresees RX9 3 none rX9_foresees) (kx1 : Mem → Ans) (kb : Int32 → Mem → Ans) (a1 : Int32) (a2 : Int32) (s0 : Int32) (s1 : Int32) (s2 : Int32) (hx1 : ∀ M0 : Mem, G x y 104 [(0, .ref (y.2.1 143)), (1, .int a1)] [] M0 (kx1 M0)) (hb : ∀ (b2 : Int32), ∀ M0 : Mem, G x y 47 [(0, .ref (y.2.1 143)), (1, .int a1), (2, .int b2)] [] M0 (kb b2 M0)) (M : Mem) : G x y 94 [(0, .ref (y.2.1 143)), (1, .int a1), (2, .int a2)] [.int s0, .int s1, .int s2, .ref (y.2.1 143)] M (d_X9_foresees_B94 kx1 kb a1 a2 s0 s1 s2 M) := by
  unfold d_X9_foresees_B94
  refine G_iload_n (pc := 94) h.1 dX9_foresees_94 rfl 1 rfl ?_
  refine G_callVv (pc := 95) (As := [.int s2, .int s1, .int s0, .int a1]) (rest := []) h.1 h.2.2.1 lk_X9_73 lN143 (eM143 _) rfl rfl (c_X9_asks x.1.2.1 y hy s2 s1 s0 a1 M) rfl rfl (Nat.le_of_ble_eq_true rfl) ⟨rfl, rfl, Nat.le_of_ble_eq_true rfl, Nat.le_of_ble_eq_true rfl⟩ dX9_foresees_95 (fun r9 M8 => ?_)
  exact G_sub [0, 1, 2] rfl (gd_X9_foresees_B98 hy h kx1 kb a1 a2 hx1 hb M8)
set_option maxRecDepth 20000 in
theorem gd_X9_foresees_L47_body {x : Cx} {y : Cy} (hy : Inj y) (h : OkM x y cX9_foresees RX9 3 none rX9_foresees) (a1 : Int32) (kx1 : Mem → Ans) (hx1 : ∀ M0 : Mem, G x y 104 [(0, .ref (y.2.1 143)), (1, .int a1)] [] M0 (kx1 M0)) (kb : Int32 → Mem → Ans) (hb : ∀ (b2 : Int32), ∀ M0 : Mem, G x y 47 [(0, .ref (y.2.1 143)), (1, .int a1), (2, .int b2)] [] M0 (kb b2 M0)) (a2 : Int32) (M : Mem) : G x y 47 [(0, .ref (y.2.1 143)), (1, .int a1), (2, .int a2)] [] M (d_X9_foresees_L47_body a1 kx1 kb a2 M) := by
  unfold d_X9_foresees_L47_body
  refine G_iload_n (pc := 47) h.1 dX9_foresees_47 rfl 2 rfl ?_
  refine G_aload_n (pc := 48) h.1 dX9_foresees_48 rfl 0 rfl ?_
  refine G_get (pc := 49) (v := .ref (y.2.1 144)) h.1 fl_X9_7 lN143 (eM143 _) rfl dX9_foresees_49 ?_
  refine G_iconst (pc := 52) (v := (5)) h.1 dX9_foresees_52 (by decide) ?_
  refine G_iald (pc := 53) h.1 lN144 (eM144 _) dX9_foresees_53 ?_
  refine G_icmp_ge (pc := 54) (tgt := 104) h.1 dX9_foresees_54 (by decide) ?_ ?_
  · exact G_sub [0, 1] rfl (hx1 M)
  · refine G_iload_n (pc := 57) h.1 dX9_foresees_57 rfl 2 rfl ?_
    refine G_aload_n (pc := 58) h.1 dX9_foresees_58 rfl 0 rfl ?_
    refine G_get (pc := 59) (v := .int (M 143 13)) h.1 fl_X9_38 lN143 (eM143 _) rfl dX9_foresees_59 ?_
    refine G_icmp_eq (pc := 62) (tgt := 98) h.1 dX9_foresees_62 (by decide) ?_ ?_
    · exact G_sub [0, 1, 2] rfl (gd_X9_foresees_B98 hy h kx1 kb a1 a2 hx1 hb M)
    · refine G_aload_n (pc := 65) h.1 dX9_foresees_65 rfl 0 rfl ?_
      refine G_iload_n (pc := 66) h.1 dX9_foresees_66 rfl 2 rfl ?_
      refine G_aload_n (pc := 67) h.1 dX9_foresees_67 rfl 0 rfl ?_
      refine G_iload_n (pc := 68) h.1 dX9_foresees_68 rfl 2 rfl ?_
      refine G_iconst (pc := 69) (v := (1)) h.1 dX9_foresees_69 (by decide) ?_
      refine G_callV (pc := 70) (As := [.int a2, .int (1 : Int32)]) (rest := [.int a2, .ref (y.2.1 143)]) h.1 h.2.2.1 lk_X9_56 lN143 (eM143 _) rfl rfl (c_X9_of x.1.2.1 y hy a2 (1 : Int32) M) rfl rfl (Nat.le_of_ble_eq_true rfl) ⟨rfl, rfl, Nat.le_of_ble_eq_true rfl, Nat.le_of_ble_eq_true rfl⟩ dX9_foresees_70 (fun r5 M4 => ?_)
      refine G_iload_n (pc := 73) h.1 dX9_foresees_73 rfl 2 rfl ?_
      refine G_aload_n (pc := 74) h.1 dX9_foresees_74 rfl 0 rfl ?_
      refine G_get (pc := 75) (v := .int (M4 143 14)) h.1 fl_X9_41 lN143 (eM143 _) rfl dX9_foresees_75 ?_
      refine G_icmp_ne (pc := 78) (tgt := 88) h.1 dX9_foresees_78 (by decide) ?_ ?_
      · refine G_aload_n (pc := 88) h.1 dX9_foresees_88 rfl 0 rfl ?_
        refine G_iload_n (pc := 89) h.1 dX9_foresees_89 rfl 2 rfl ?_
        refine G_iconst (pc := 90) (v := (2)) h.1 dX9_foresees_90 (by decide) ?_
        refine G_callV (pc := 91) (As := [.int a2, .int (2 : Int32)]) (rest := [.int r5, .int a2, .ref (y.2.1 143)]) h.1 h.2.2.1 lk_X9_56 lN143 (eM143 _) rfl rfl (c_X9_of x.1.2.1 y hy a2 (2 : Int32) M4) rfl rfl (Nat.le_of_ble_eq_true rfl) ⟨rfl, rfl, Nat.le_of_ble_eq_true rfl, Nat.le_of_ble_eq_true rfl⟩ dX9_foresees_91 (fun r7 M6 => ?_)
        exact G_sub [0, 1, 2] rfl (gd_X9_foresees_B94 hy h kx1 kb a1 a2 r7 r5 a2 hx1 hb M6)
      · refine G_aload_n (pc := 81) h.1 dX9_foresees_81 rfl 0 rfl ?_
        refine G_get (pc := 82) (v := .int (M4 143 15)) h.1 fl_X9_70 lN143 (eM143 _) rfl dX9_foresees_82 ?_
        refine G_goto (pc := 85) (tgt := 94) h.1 dX9_foresees_85 (by decide) ?_
        exact G_sub [0, 1, 2] rfl (gd_X9_foresees_B94 hy h kx1 kb a1 a2 (M4 143 15) r5 a2 hx1 hb M4)
set_option maxRecDepth 20000 in
theorem gd_X9_foresees_L47 {x : Cx} {y : Cy} (hy : Inj y) (h : OkM x y cX9_foresees RX9 3 none rX9_foresees) (a1 : Int32) (kx1 : Mem → Ans) (hx1 : ∀ M0 : Mem, G x y 104 [(0, .ref (y.2.1 143)), (1, .int a1)] [] M0 (kx1 M0)) : ∀ (n : Nat) (a2 : Int32) (M : Mem), G x y 47 [(0, .ref (y.2.1 143)), (1, .int a1), (2, .int a2)] [] M (d_X9_foresees_L47 a1 kx1 n a2 M) := by
  intro n
  induction n with
  | zero => intro a2 M; exact G_none
  | succ n ih => intro a2 M; exact gd_X9_foresees_L47_body hy h a1 kx1 hx1 _ ih a2 M
set_option maxRecDepth 20000 in
theorem gd_X9_foresees_B42 {x : Cx} {y : Cy} (hy : Inj y) (h : OkM x y cX9_foresees RX9 3 none rX9_foresees) (a1 : Int32) (s0 : Int32) (M : Mem) : G x y 42 [(0, .ref (y.2.1 143)), (1, .int a1)] [.int s0, .ref (y.2.1 143)] M (d_X9_foresees_B42 a1 s0 M) := by
  unfold d_X9_foresees_B42
  refine G_put (pc := 42) h.1 fp_X9_66 lN143 (fun m => eM143 m) (fun _ => rfl) (fun _ => Nat.le_of_ble_eq_true rfl) rfl rfl dX9_foresees_42 (fun M2 => ?_)
  refine G_iconst (pc := 45) (v := (0)) h.1 dX9_foresees_45 (by decide) ?_
  refine G_istore_n (pc := 46) h.1 h.2.1 [(2, .int (0 : Int32)), (0, .ref (y.2.1 143)), (1, .int a1)] dX9_foresees_46 rfl (by decide) rfl ?_
  refine G_sub [1, 2, 0] rfl (gd_X9_foresees_L47 hy h a1 _ (fun M10 => ?_) fuelN (0 : Int32) M2)
  refine G_aload_n (pc := 104) h.1 dX9_foresees_104 rfl 0 rfl ?_
  refine G_get (pc := 105) (v := .int (M10 143 11)) h.1 fl_X9_34 lN143 (eM143 _) rfl dX9_foresees_105 ?_
  refine G_if_lt (pc := 108) (tgt := 126) h.1 dX9_foresees_108 (by decide) ?_ ?_
  · exact G_vret (pc := 126) h dX9_foresees_126
  · refine G_aload_n (pc := 111) h.1 dX9_foresees_111 rfl 0 rfl ?_
    refine G_bipush (pc := 112) (v := (60)) h.1 dX9_foresees_112 (by decide) ?_
    refine G_aload_n (pc := 114) h.1 dX9_foresees_114 rfl 0 rfl ?_
    refine G_get (pc := 115) (v := .int (M10 143 11)) h.1 fl_X9_34 lN143 (eM143 _) rfl dX9_foresees_115 ?_
    refine G_aload_n (pc := 118) h.1 dX9_foresees_118 rfl 0 rfl ?_
    refine G_get (pc := 119) (v := .int (M10 143 12)) h.1 fl_X9_77 lN143 (eM143 _) rfl dX9_foresees_119 ?_
    refine G_iload_n (pc := 122) h.1 dX9_foresees_122 rfl 1 rfl ?_
    refine G_callVv (pc := 123) (As := [.int (60 : Int32), .int (M10 143 11), .int (M10 143 12), .int a1]) (rest := []) h.1 h.2.2.1 lk_X9_73 lN143 (eM143 _) rfl rfl (c_X9_asks x.1.2.1 y hy (60 : Int32) (M10 143 11) (M10 143 12) a1 M10) rfl rfl (Nat.le_of_ble_eq_true rfl) ⟨rfl, rfl, Nat.le_of_ble_eq_true rfl, Nat.le_of_ble_eq_true rfl⟩ dX9_foresees_123 (fun r12 M11 => ?_)
    exact G_vret (pc := 126) h dX9_foresees_126
set_option maxRecDepth 20000 in
theorem c_X9_foresees (l : Launch) (y : Cy) (hy : Inj y) (p1 : Int32) (M : Mem) : CT l y yX9_foresees cX9_foresees 3 none rX9_foresees [.ref (y.2.1 143), .int p1] M (d_X9_foresees p1 M) := by
  refine CT_of (by decide) hy (Nat.le_of_ble_eq_true rfl) (fun x hxl h => ?_)
  show G x y 0 [(0, .ref (y.2.1 143)), (1, .int p1)] [] M _
  unfold d_X9_foresees
  refine G_aload_n (pc := 0) h.1 dX9_foresees_0 rfl 0 rfl ?_
  refine G_dup (pc := 1) h.1 dX9_foresees_1 rfl ?_
  refine G_get (pc := 2) (v := .int (M 143 10)) h.1 fl_X9_66 lN143 (eM143 _) rfl dX9_foresees_2 ?_
  refine G_aload_n (pc := 5) h.1 dX9_foresees_5 rfl 0 rfl ?_
  refine G_get (pc := 6) (v := .ref (y.2.1 144)) h.1 fl_X9_7 lN143 (eM143 _) rfl dX9_foresees_6 ?_
  refine G_iconst (pc := 9) (v := (3)) h.1 dX9_foresees_9 (by decide) ?_
  refine G_iald (pc := 10) h.1 lN144 (eM144 _) dX9_foresees_10 ?_
  refine G_iadd (pc := 11) h.1 dX9_foresees_11 ?_
  refine G_put (pc := 12) h.1 fp_X9_66 lN143 (fun m => eM143 m) (fun _ => rfl) (fun _ => Nat.le_of_ble_eq_true rfl) rfl rfl dX9_foresees_12 (fun M1 => ?_)
  refine G_aload_n (pc := 15) h.1 dX9_foresees_15 rfl 0 rfl ?_
  refine G_aload_n (pc := 16) h.1 dX9_foresees_16 rfl 0 rfl ?_
  refine G_get (pc := 17) (v := .int (M1 143 10)) h.1 fl_X9_66 lN143 (eM143 _) rfl dX9_foresees_17 ?_
  refine G_aload_n (pc := 20) h.1 dX9_foresees_20 rfl 0 rfl ?_
  refine G_get (pc := 21) (v := .ref (y.2.1 144)) h.1 fl_X9_7 lN143 (eM143 _) rfl dX9_foresees_21 ?_
  refine G_iconst (pc := 24) (v := (2)) h.1 dX9_foresees_24 (by decide) ?_
  refine G_iald (pc := 25) h.1 lN144 (eM144 _) dX9_foresees_25 ?_
  refine G_icmp_le (pc := 26) (tgt := 38) h.1 dX9_foresees_26 (by decide) ?_ ?_
  · refine G_aload_n (pc := 38) h.1 dX9_foresees_38 rfl 0 rfl ?_
    refine G_get (pc := 39) (v := .int (M1 143 10)) h.1 fl_X9_66 lN143 (eM143 _) rfl dX9_foresees_39 ?_
    exact G_sub [0, 1] rfl (gd_X9_foresees_B42 hy h p1 (M1 143 10) M1)
  · refine G_aload_n (pc := 29) h.1 dX9_foresees_29 rfl 0 rfl ?_
    refine G_get (pc := 30) (v := .ref (y.2.1 144)) h.1 fl_X9_7 lN143 (eM143 _) rfl dX9_foresees_30 ?_
    refine G_iconst (pc := 33) (v := (2)) h.1 dX9_foresees_33 (by decide) ?_
    refine G_iald (pc := 34) h.1 lN144 (eM144 _) dX9_foresees_34 ?_
    refine G_goto (pc := 35) (tgt := 42) h.1 dX9_foresees_35 (by decide) ?_
    exact G_sub [0, 1] rfl (gd_X9_foresees_B42 hy h p1 (M1 144 ((2 : Int32)).toNatClampNeg) M1)
theorem dX9_forecast_0 : decode cX9_forecast 0 = .ok (.aload_n 0, 1) := by decide +kernel
theorem dX9_forecast_1 : decode cX9_forecast 1 = .ok (.invokevirtual 80, 3) := by decide +kernel
theorem dX9_forecast_4 : decode cX9_forecast 4 = .ok (.iconst 1, 1) := by decide +kernel
theorem dX9_forecast_5 : decode cX9_forecast 5 = .ok (.istore_n 1, 1) := by decide +kernel
theorem dX9_forecast_6 : decode cX9_forecast 6 = .ok (.iload_n 1, 1) := by decide +kernel
theorem dX9_forecast_7 : decode cX9_forecast 7 = .ok (.bipush 80, 2) := by decide +kernel
theorem dX9_forecast_9 : decode cX9_forecast 9 = .ok (.if_icmp .gt 21, 3) := by decide +kernel
theorem dX9_forecast_12 : decode cX9_forecast 12 = .ok (.aload_n 0, 1) := by decide +kernel
theorem dX9_forecast_13 : decode cX9_forecast 13 = .ok (.aload_n 0, 1) := by decide +kernel
theorem dX9_forecast_14 : decode cX9_forecast 14 = .ok (.getfield 7, 3) := by decide +kernel
theorem dX9_forecast_17 : decode cX9_forecast 17 = .ok (.iconst 0, 1) := by decide +kernel
theorem dX9_forecast_18 : decode cX9_forecast 18 = .ok (.iaload, 1) := by decide +kernel
theorem dX9_forecast_19 : decode cX9_forecast 19 = .ok (.iload_n 1, 1) := by decide +kernel
theorem dX9_forecast_20 : decode cX9_forecast 20 = .ok (.iadd, 1) := by decide +kernel
theorem dX9_forecast_21 : decode cX9_forecast 21 = .ok (.invokevirtual 83, 3) := by decide +kernel
theorem dX9_forecast_24 : decode cX9_forecast 24 = .ok (.iinc 1 1, 3) := by decide +kernel
theorem dX9_forecast_27 : decode cX9_forecast 27 = .ok (.goto (-21), 3) := by decide +kernel
theorem dX9_forecast_30 : decode cX9_forecast 30 = .ok (.return_, 1) := by decide +kernel
abbrev rX9_forecast : Room := { frames := 3, cells := 0, slots := 0, locals := 70 }
set_option maxRecDepth 20000 in
theorem gd_X9_forecast_L6_body {x : Cx} {y : Cy} (hy : Inj y) (h : OkM x y cX9_forecast RX9 2 none rX9_forecast) (kx1 : Mem → Ans) (hx1 : ∀ M0 : Mem, G x y 30 [] [] M0 (kx1 M0)) (kb : Int32 → Mem → Ans) (hb : ∀ (b1 : Int32), ∀ M0 : Mem, G x y 6 [(0, .ref (y.2.1 143)), (1, .int b1)] [] M0 (kb b1 M0)) (a1 : Int32) (M : Mem) : G x y 6 [(0, .ref (y.2.1 143)), (1, .int a1)] [] M (d_X9_forecast_L6_body kx1 kb a1 M) := by
  unfold d_X9_forecast_L6_body
  refine G_iload_n (pc := 6) h.1 dX9_forecast_6 rfl 1 rfl ?_
  refine G_bipush (pc := 7) (v := (80)) h.1 dX9_forecast_7 (by decide) ?_
  refine G_icmp_gt (pc := 9) (tgt := 30) h.1 dX9_forecast_9 (by decide) ?_ ?_
  · exact G_sub [] rfl (hx1 M)
  · refine G_aload_n (pc := 12) h.1 dX9_forecast_12 rfl 0 rfl ?_
    refine G_aload_n (pc := 13) h.1 dX9_forecast_13 rfl 0 rfl ?_
    refine G_get (pc := 14) (v := .ref (y.2.1 144)) h.1 fl_X9_7 lN143 (eM143 _) rfl dX9_forecast_14 ?_
    refine G_iconst (pc := 17) (v := (0)) h.1 dX9_forecast_17 (by decide) ?_
    refine G_iald (pc := 18) h.1 lN144 (eM144 _) dX9_forecast_18 ?_
    refine G_iload_n (pc := 19) h.1 dX9_forecast_19 rfl 1 rfl ?_
    refine G_iadd (pc := 20) h.1 dX9_forecast_20 ?_
    refine G_callVv (pc := 21) (As := [.int ((M 144 ((0 : Int32)).toNatClampNeg) + a1)]) (rest := []) h.1 h.2.2.1 lk_X9_83 lN143 (eM143 _) rfl rfl (c_X9_foresees x.1.2.1 y hy ((M 144 ((0 : Int32)).toNatClampNeg) + a1) M) rfl rfl (Nat.le_of_ble_eq_true rfl) ⟨rfl, rfl, Nat.le_of_ble_eq_true rfl, Nat.le_of_ble_eq_true rfl⟩ dX9_forecast_21 (fun r4 M3 => ?_)
    refine G_iinc (pc := 24) (v := a1 + (1)) h.1 h.2.1 (fun v5 => [(1, .int v5), (0, .ref (y.2.1 143))]) dX9_forecast_24 (by decide) 1 rfl rfl (fun _ => rfl) (fun v5 => ?_)
    refine G_goto (pc := 27) (tgt := 6) h.1 dX9_forecast_27 (by decide) ?_
    exact G_sub [1, 0] rfl (hb v5 M3)
set_option maxRecDepth 20000 in
theorem gd_X9_forecast_L6 {x : Cx} {y : Cy} (hy : Inj y) (h : OkM x y cX9_forecast RX9 2 none rX9_forecast) (kx1 : Mem → Ans) (hx1 : ∀ M0 : Mem, G x y 30 [] [] M0 (kx1 M0)) : ∀ (n : Nat) (a1 : Int32) (M : Mem), G x y 6 [(0, .ref (y.2.1 143)), (1, .int a1)] [] M (d_X9_forecast_L6 kx1 n a1 M) := by
  intro n
  induction n with
  | zero => intro a1 M; exact G_none
  | succ n ih => intro a1 M; exact gd_X9_forecast_L6_body hy h kx1 hx1 _ ih a1 M
set_option maxRecDepth 20000 in
theorem c_X9_forecast (l : Launch) (y : Cy) (hy : Inj y) (M : Mem) : CT l y yX9_forecast cX9_forecast 2 none rX9_forecast [.ref (y.2.1 143)] M (d_X9_forecast M) := by
  refine CT_of (by decide) hy (Nat.le_of_ble_eq_true rfl) (fun x hxl h => ?_)
  show G x y 0 [(0, .ref (y.2.1 143))] [] M _
  unfold d_X9_forecast
  refine G_aload_n (pc := 0) h.1 dX9_forecast_0 rfl 0 rfl ?_
  refine G_callVv (pc := 1) (As := []) (rest := []) h.1 h.2.2.1 lk_X9_80 lN143 (eM143 _) rfl rfl (c_X9_begins x.1.2.1 y hy M) rfl rfl (Nat.le_of_ble_eq_true rfl) ⟨rfl, rfl, Nat.le_of_ble_eq_true rfl, Nat.le_of_ble_eq_true rfl⟩ dX9_forecast_1 (fun r2 M1 => ?_)
  refine G_iconst (pc := 4) (v := (1)) h.1 dX9_forecast_4 (by decide) ?_
  refine G_istore_n (pc := 5) h.1 h.2.1 [(1, .int (1 : Int32)), (0, .ref (y.2.1 143))] dX9_forecast_5 rfl (by decide) rfl ?_
  refine G_sub [1, 0] rfl (gd_X9_forecast_L6 hy h _ (fun M6 => ?_) fuelN (1 : Int32) M1)
  exact G_vret (pc := 30) h dX9_forecast_30
theorem dX9_doomed_0 : decode cX9_doomed 0 = .ok (.aload_n 0, 1) := by decide +kernel
theorem dX9_doomed_1 : decode cX9_doomed 1 = .ok (.invokevirtual 87, 3) := by decide +kernel
theorem dX9_doomed_4 : decode cX9_doomed 4 = .ok (.iconst 0, 1) := by decide +kernel
theorem dX9_doomed_5 : decode cX9_doomed 5 = .ok (.istore_n 1, 1) := by decide +kernel
theorem dX9_doomed_6 : decode cX9_doomed 6 = .ok (.iconst 0, 1) := by decide +kernel
theorem dX9_doomed_7 : decode cX9_doomed 7 = .ok (.istore_n 2, 1) := by decide +kernel
theorem dX9_doomed_8 : decode cX9_doomed 8 = .ok (.iload_n 2, 1) := by decide +kernel
theorem dX9_doomed_9 : decode cX9_doomed 9 = .ok (.aload_n 0, 1) := by decide +kernel
theorem dX9_doomed_10 : decode cX9_doomed 10 = .ok (.getfield 7, 3) := by decide +kernel
theorem dX9_doomed_13 : decode cX9_doomed 13 = .ok (.iconst 5, 1) := by decide +kernel
theorem dX9_doomed_14 : decode cX9_doomed 14 = .ok (.iaload, 1) := by decide +kernel
theorem dX9_doomed_15 : decode cX9_doomed 15 = .ok (.if_icmp .ge 26, 3) := by decide +kernel
theorem dX9_doomed_18 : decode cX9_doomed 18 = .ok (.iload_n 1, 1) := by decide +kernel
theorem dX9_doomed_19 : decode cX9_doomed 19 = .ok (.aload_n 0, 1) := by decide +kernel
theorem dX9_doomed_20 : decode cX9_doomed 20 = .ok (.getfield 25, 3) := by decide +kernel
theorem dX9_doomed_23 : decode cX9_doomed 23 = .ok (.iload_n 2, 1) := by decide +kernel
theorem dX9_doomed_24 : decode cX9_doomed 24 = .ok (.iaload, 1) := by decide +kernel
theorem dX9_doomed_25 : decode cX9_doomed 25 = .ok (.ifCond .le 7, 3) := by decide +kernel
theorem dX9_doomed_28 : decode cX9_doomed 28 = .ok (.iconst 1, 1) := by decide +kernel
theorem dX9_doomed_29 : decode cX9_doomed 29 = .ok (.goto 4, 3) := by decide +kernel
theorem dX9_doomed_32 : decode cX9_doomed 32 = .ok (.iconst 0, 1) := by decide +kernel
theorem dX9_doomed_33 : decode cX9_doomed 33 = .ok (.iadd, 1) := by decide +kernel
theorem dX9_doomed_34 : decode cX9_doomed 34 = .ok (.istore_n 1, 1) := by decide +kernel
theorem dX9_doomed_35 : decode cX9_doomed 35 = .ok (.iinc 2 1, 3) := by decide +kernel
theorem dX9_doomed_38 : decode cX9_doomed 38 = .ok (.goto (-30), 3) := by decide +kernel
theorem dX9_doomed_41 : decode cX9_doomed 41 = .ok (.iload_n 1, 1) := by decide +kernel
theorem dX9_doomed_42 : decode cX9_doomed 42 = .ok (.ireturn, 1) := by decide +kernel
abbrev rX9_doomed : Room := { frames := 4, cells := 0, slots := 0, locals := 91 }
set_option maxRecDepth 20000 in
theorem gd_X9_doomed_B33 {x : Cx} {y : Cy} (hy : Inj y) (h : OkM x y cX9_doomed RX9 3 (some .int) rX9_doomed) (kx1 : Int32 → Mem → Ans) (kb : Int32 → Int32 → Mem → Ans) (a2 : Int32) (s0 : Int32) (s1 : Int32) (hx1 : ∀ (b1 : Int32), ∀ M0 : Mem, G x y 41 [(1, .int b1)] [] M0 (kx1 b1 M0)) (hb : ∀ (b1 b2 : Int32), ∀ M0 : Mem, G x y 8 [(0, .ref (y.2.1 143)), (1, .int b1), (2, .int b2)] [] M0 (kb b1 b2 M0)) (M : Mem) : G x y 33 [(0, .ref (y.2.1 143)), (2, .int a2)] [.int s0, .int s1] M (d_X9_doomed_B33 kx1 kb a2 s0 s1 M) := by
  unfold d_X9_doomed_B33
  refine G_iadd (pc := 33) h.1 dX9_doomed_33 ?_
  refine G_top (fun v3 => ?_)
  refine G_istore_n (pc := 34) h.1 h.2.1 [(1, .int v3), (0, .ref (y.2.1 143)), (2, .int a2)] dX9_doomed_34 rfl (by decide) rfl ?_
  refine G_iinc (pc := 35) (v := a2 + (1)) h.1 h.2.1 (fun v4 => [(2, .int v4), (1, .int v3), (0, .ref (y.2.1 143))]) dX9_doomed_35 (by decide) 2 rfl rfl (fun _ => rfl) (fun v4 => ?_)
  refine G_goto (pc := 38) (tgt := 8) h.1 dX9_doomed_38 (by decide) ?_
  exact G_sub [2, 1, 0] rfl (hb v3 v4 M)
set_option maxRecDepth 20000 in
theorem gd_X9_doomed_L8_body {x : Cx} {y : Cy} (hy : Inj y) (h : OkM x y cX9_doomed RX9 3 (some .int) rX9_doomed) (kx1 : Int32 → Mem → Ans) (hx1 : ∀ (b1 : Int32), ∀ M0 : Mem, G x y 41 [(1, .int b1)] [] M0 (kx1 b1 M0)) (kb : Int32 → Int32 → Mem → Ans) (hb : ∀ (b1 b2 : Int32), ∀ M0 : Mem, G x y 8 [(0, .ref (y.2.1 143)), (1, .int b1), (2, .int b2)] [] M0 (kb b1 b2 M0)) (a1 : Int32) (a2 : Int32) (M : Mem) : G x y 8 [(0, .ref (y.2.1 143)), (1, .int a1), (2, .int a2)] [] M (d_X9_doomed_L8_body kx1 kb a1 a2 M) := by
  unfold d_X9_doomed_L8_body
  refine G_iload_n (pc := 8) h.1 dX9_doomed_8 rfl 2 rfl ?_
  refine G_aload_n (pc := 9) h.1 dX9_doomed_9 rfl 0 rfl ?_
  refine G_get (pc := 10) (v := .ref (y.2.1 144)) h.1 fl_X9_7 lN143 (eM143 _) rfl dX9_doomed_10 ?_
  refine G_iconst (pc := 13) (v := (5)) h.1 dX9_doomed_13 (by decide) ?_
  refine G_iald (pc := 14) h.1 lN144 (eM144 _) dX9_doomed_14 ?_
  refine G_icmp_ge (pc := 15) (tgt := 41) h.1 dX9_doomed_15 (by decide) ?_ ?_
  · exact G_sub [1] rfl (hx1 a1 M)
  · refine G_iload_n (pc := 18) h.1 dX9_doomed_18 rfl 1 rfl ?_
    refine G_aload_n (pc := 19) h.1 dX9_doomed_19 rfl 0 rfl ?_
    refine G_get (pc := 20) (v := .ref (y.2.1 149)) h.1 fl_X9_25 lN143 (eM143 _) rfl dX9_doomed_20 ?_
    refine G_iload_n (pc := 23) h.1 dX9_doomed_23 rfl 2 rfl ?_
    refine G_iald (pc := 24) h.1 lN149 (eM149 _) dX9_doomed_24 ?_
    refine G_if_le (pc := 25) (tgt := 32) h.1 dX9_doomed_25 (by decide) ?_ ?_
    · refine G_iconst (pc := 32) (v := (0)) h.1 dX9_doomed_32 (by decide) ?_
      exact G_sub [0, 2] rfl (gd_X9_doomed_B33 hy h kx1 kb a2 (0 : Int32) a1 hx1 hb M)
    · refine G_iconst (pc := 28) (v := (1)) h.1 dX9_doomed_28 (by decide) ?_
      refine G_goto (pc := 29) (tgt := 33) h.1 dX9_doomed_29 (by decide) ?_
      exact G_sub [0, 2] rfl (gd_X9_doomed_B33 hy h kx1 kb a2 (1 : Int32) a1 hx1 hb M)
set_option maxRecDepth 20000 in
theorem gd_X9_doomed_L8 {x : Cx} {y : Cy} (hy : Inj y) (h : OkM x y cX9_doomed RX9 3 (some .int) rX9_doomed) (kx1 : Int32 → Mem → Ans) (hx1 : ∀ (b1 : Int32), ∀ M0 : Mem, G x y 41 [(1, .int b1)] [] M0 (kx1 b1 M0)) : ∀ (n : Nat) (a1 : Int32) (a2 : Int32) (M : Mem), G x y 8 [(0, .ref (y.2.1 143)), (1, .int a1), (2, .int a2)] [] M (d_X9_doomed_L8 kx1 n a1 a2 M) := by
  intro n
  induction n with
  | zero => intro a1 a2 M; exact G_none
  | succ n ih => intro a1 a2 M; exact gd_X9_doomed_L8_body hy h kx1 hx1 _ ih a1 a2 M
set_option maxRecDepth 20000 in
theorem c_X9_doomed (l : Launch) (y : Cy) (hy : Inj y) (M : Mem) : CT l y yX9_doomed cX9_doomed 3 (some .int) rX9_doomed [.ref (y.2.1 143)] M (d_X9_doomed M) := by
  refine CT_of (by decide) hy (Nat.le_of_ble_eq_true rfl) (fun x hxl h => ?_)
  show G x y 0 [(0, .ref (y.2.1 143))] [] M _
  unfold d_X9_doomed
  refine G_aload_n (pc := 0) h.1 dX9_doomed_0 rfl 0 rfl ?_
  refine G_callVv (pc := 1) (As := []) (rest := []) h.1 h.2.2.1 lk_X9_87 lN143 (eM143 _) rfl rfl (c_X9_forecast x.1.2.1 y hy M) rfl rfl (Nat.le_of_ble_eq_true rfl) ⟨rfl, rfl, Nat.le_of_ble_eq_true rfl, Nat.le_of_ble_eq_true rfl⟩ dX9_doomed_1 (fun r2 M1 => ?_)
  refine G_iconst (pc := 4) (v := (0)) h.1 dX9_doomed_4 (by decide) ?_
  refine G_istore_n (pc := 5) h.1 h.2.1 [(1, .int (0 : Int32)), (0, .ref (y.2.1 143))] dX9_doomed_5 rfl (by decide) rfl ?_
  refine G_iconst (pc := 6) (v := (0)) h.1 dX9_doomed_6 (by decide) ?_
  refine G_istore_n (pc := 7) h.1 h.2.1 [(2, .int (0 : Int32)), (1, .int (0 : Int32)), (0, .ref (y.2.1 143))] dX9_doomed_7 rfl (by decide) rfl ?_
  refine G_sub [2, 1, 0] rfl (gd_X9_doomed_L8 hy h _ (fun v5 M6 => ?_) fuelN (0 : Int32) (0 : Int32) M1)
  refine G_iload_n (pc := 41) h.1 dX9_doomed_41 rfl 0 rfl ?_
  exact G_ret (pc := 42) h rfl dX9_doomed_42
theorem dX9_last_0 : decode cX9_last 0 = .ok (.iload_n 2, 1) := by decide +kernel
theorem dX9_last_1 : decode cX9_last 1 = .ok (.aload_n 0, 1) := by decide +kernel
theorem dX9_last_2 : decode cX9_last 2 = .ok (.iload_n 1, 1) := by decide +kernel
theorem dX9_last_3 : decode cX9_last 3 = .ok (.iconst 2, 1) := by decide +kernel
theorem dX9_last_4 : decode cX9_last 4 = .ok (.invokevirtual 63, 3) := by decide +kernel
theorem dX9_last_7 : decode cX9_last 7 = .ok (.iadd, 1) := by decide +kernel
theorem dX9_last_8 : decode cX9_last 8 = .ok (.iconst 1, 1) := by decide +kernel
theorem dX9_last_9 : decode cX9_last 9 = .ok (.isub, 1) := by decide +kernel
theorem dX9_last_10 : decode cX9_last 10 = .ok (.aload_n 0, 1) := by decide +kernel
theorem dX9_last_11 : decode cX9_last 11 = .ok (.iload_n 1, 1) := by decide +kernel
theorem dX9_last_12 : decode cX9_last 12 = .ok (.iconst 3, 1) := by decide +kernel
theorem dX9_last_13 : decode cX9_last 13 = .ok (.invokevirtual 63, 3) := by decide +kernel
theorem dX9_last_16 : decode cX9_last 16 = .ok (.iadd, 1) := by decide +kernel
theorem dX9_last_17 : decode cX9_last 17 = .ok (.ireturn, 1) := by decide +kernel
abbrev rX9_last : Room := { frames := 1, cells := 0, slots := 0, locals := 22 }
set_option maxRecDepth 20000 in
theorem c_X9_last (l : Launch) (y : Cy) (hy : Inj y) (p1 : Int32) (p2 : Int32) (M : Mem) : CT l y yX9_last cX9_last 3 (some .int) rX9_last [.ref (y.2.1 143), .int p1, .int p2] M (d_X9_last p1 p2 M) := by
  refine CT_of (by decide) hy (Nat.le_of_ble_eq_true rfl) (fun x hxl h => ?_)
  show G x y 0 [(0, .ref (y.2.1 143)), (1, .int p1), (2, .int p2)] [] M _
  unfold d_X9_last
  refine G_iload_n (pc := 0) h.1 dX9_last_0 rfl 2 rfl ?_
  refine G_aload_n (pc := 1) h.1 dX9_last_1 rfl 0 rfl ?_
  refine G_iload_n (pc := 2) h.1 dX9_last_2 rfl 1 rfl ?_
  refine G_iconst (pc := 3) (v := (2)) h.1 dX9_last_3 (by decide) ?_
  refine G_callV (pc := 4) (As := [.int p1, .int (2 : Int32)]) (rest := [.int p2]) h.1 h.2.2.1 lk_X9_63 lN143 (eM143 _) rfl rfl (c_X9_ofRecipe x.1.2.1 y hy p1 (2 : Int32) M) rfl rfl (Nat.le_of_ble_eq_true rfl) ⟨rfl, rfl, Nat.le_of_ble_eq_true rfl, Nat.le_of_ble_eq_true rfl⟩ dX9_last_4 (fun r2 M1 => ?_)
  refine G_iadd (pc := 7) h.1 dX9_last_7 ?_
  refine G_iconst (pc := 8) (v := (1)) h.1 dX9_last_8 (by decide) ?_
  refine G_isub (pc := 9) h.1 dX9_last_9 ?_
  refine G_aload_n (pc := 10) h.1 dX9_last_10 rfl 0 rfl ?_
  refine G_iload_n (pc := 11) h.1 dX9_last_11 rfl 1 rfl ?_
  refine G_iconst (pc := 12) (v := (3)) h.1 dX9_last_12 (by decide) ?_
  refine G_callV (pc := 13) (As := [.int p1, .int (3 : Int32)]) (rest := [.int ((p2 + r2) - (1 : Int32))]) h.1 h.2.2.1 lk_X9_63 lN143 (eM143 _) rfl rfl (c_X9_ofRecipe x.1.2.1 y hy p1 (3 : Int32) M1) rfl rfl (Nat.le_of_ble_eq_true rfl) ⟨rfl, rfl, Nat.le_of_ble_eq_true rfl, Nat.le_of_ble_eq_true rfl⟩ dX9_last_13 (fun r4 M3 => ?_)
  refine G_iadd (pc := 16) h.1 dX9_last_16 ?_
  exact G_ret (pc := 17) h rfl dX9_last_17
theorem dX9_keeper_0 : decode cX9_keeper 0 = .ok (.iconst 0, 1) := by decide +kernel
theorem dX9_keeper_1 : decode cX9_keeper 1 = .ok (.istore 5, 2) := by decide +kernel
theorem dX9_keeper_3 : decode cX9_keeper 3 = .ok (.iload 5, 2) := by decide +kernel
theorem dX9_keeper_5 : decode cX9_keeper 5 = .ok (.aload_n 0, 1) := by decide +kernel
theorem dX9_keeper_6 : decode cX9_keeper 6 = .ok (.getfield 7, 3) := by decide +kernel
theorem dX9_keeper_9 : decode cX9_keeper 9 = .ok (.iconst 5, 1) := by decide +kernel
theorem dX9_keeper_10 : decode cX9_keeper 10 = .ok (.iaload, 1) := by decide +kernel
theorem dX9_keeper_11 : decode cX9_keeper 11 = .ok (.if_icmp .ge 74, 3) := by decide +kernel
theorem dX9_keeper_14 : decode cX9_keeper 14 = .ok (.iload 5, 2) := by decide +kernel
theorem dX9_keeper_16 : decode cX9_keeper 16 = .ok (.iload 4, 2) := by decide +kernel
theorem dX9_keeper_18 : decode cX9_keeper 18 = .ok (.if_icmp .eq 61, 3) := by decide +kernel
theorem dX9_keeper_21 : decode cX9_keeper 21 = .ok (.aload_n 0, 1) := by decide +kernel
theorem dX9_keeper_22 : decode cX9_keeper 22 = .ok (.iload 5, 2) := by decide +kernel
theorem dX9_keeper_24 : decode cX9_keeper 24 = .ok (.iconst 0, 1) := by decide +kernel
theorem dX9_keeper_25 : decode cX9_keeper 25 = .ok (.invokevirtual 56, 3) := by decide +kernel
theorem dX9_keeper_28 : decode cX9_keeper 28 = .ok (.iload_n 1, 1) := by decide +kernel
theorem dX9_keeper_29 : decode cX9_keeper 29 = .ok (.if_icmp .ne 50, 3) := by decide +kernel
theorem dX9_keeper_32 : decode cX9_keeper 32 = .ok (.aload_n 0, 1) := by decide +kernel
theorem dX9_keeper_33 : decode cX9_keeper 33 = .ok (.iload 5, 2) := by decide +kernel
theorem dX9_keeper_35 : decode cX9_keeper 35 = .ok (.iconst 3, 1) := by decide +kernel
theorem dX9_keeper_36 : decode cX9_keeper 36 = .ok (.invokevirtual 56, 3) := by decide +kernel
theorem dX9_keeper_39 : decode cX9_keeper 39 = .ok (.iconst 2, 1) := by decide +kernel
theorem dX9_keeper_40 : decode cX9_keeper 40 = .ok (.if_icmp .gt 39, 3) := by decide +kernel
theorem dX9_keeper_43 : decode cX9_keeper 43 = .ok (.aload_n 0, 1) := by decide +kernel
theorem dX9_keeper_44 : decode cX9_keeper 44 = .ok (.iload 5, 2) := by decide +kernel
theorem dX9_keeper_46 : decode cX9_keeper 46 = .ok (.iconst 2, 1) := by decide +kernel
theorem dX9_keeper_47 : decode cX9_keeper 47 = .ok (.invokevirtual 56, 3) := by decide +kernel
theorem dX9_keeper_50 : decode cX9_keeper 50 = .ok (.iload_n 3, 1) := by decide +kernel
theorem dX9_keeper_51 : decode cX9_keeper 51 = .ok (.if_icmp .gt 28, 3) := by decide +kernel
theorem dX9_keeper_54 : decode cX9_keeper 54 = .ok (.aload_n 0, 1) := by decide +kernel
theorem dX9_keeper_55 : decode cX9_keeper 55 = .ok (.aload_n 0, 1) := by decide +kernel
theorem dX9_keeper_56 : decode cX9_keeper 56 = .ok (.iload 5, 2) := by decide +kernel
theorem dX9_keeper_58 : decode cX9_keeper 58 = .ok (.iconst 1, 1) := by decide +kernel
theorem dX9_keeper_59 : decode cX9_keeper 59 = .ok (.invokevirtual 56, 3) := by decide +kernel
theorem dX9_keeper_62 : decode cX9_keeper 62 = .ok (.aload_n 0, 1) := by decide +kernel
theorem dX9_keeper_63 : decode cX9_keeper 63 = .ok (.iload 5, 2) := by decide +kernel
theorem dX9_keeper_65 : decode cX9_keeper 65 = .ok (.iconst 2, 1) := by decide +kernel
theorem dX9_keeper_66 : decode cX9_keeper 66 = .ok (.invokevirtual 56, 3) := by decide +kernel
theorem dX9_keeper_69 : decode cX9_keeper 69 = .ok (.invokevirtual 90, 3) := by decide +kernel
theorem dX9_keeper_72 : decode cX9_keeper 72 = .ok (.iload_n 2, 1) := by decide +kernel
theorem dX9_keeper_73 : decode cX9_keeper 73 = .ok (.if_icmp .lt 6, 3) := by decide +kernel
theorem dX9_keeper_76 : decode cX9_keeper 76 = .ok (.iload 5, 2) := by decide +kernel
theorem dX9_keeper_78 : decode cX9_keeper 78 = .ok (.ireturn, 1) := by decide +kernel
theorem dX9_keeper_79 : decode cX9_keeper 79 = .ok (.iinc 5 1, 3) := by decide +kernel
theorem dX9_keeper_82 : decode cX9_keeper 82 = .ok (.goto (-79), 3) := by decide +kernel
theorem dX9_keeper_85 : decode cX9_keeper 85 = .ok (.bipush (-5), 2) := by decide +kernel
theorem dX9_keeper_87 : decode cX9_keeper 87 = .ok (.ireturn, 1) := by decide +kernel
abbrev rX9_keeper : Room := { frames := 2, cells := 0, slots := 0, locals := 44 }
set_option maxRecDepth 20000 in
theorem gd_X9_keeper_B79 {x : Cx} {y : Cy} (hy : Inj y) (h : OkM x y cX9_keeper RX9 6 (some .int) rX9_keeper) (kx1 : Mem → Ans) (kb : Int32 → Mem → Ans) (a1 : Int32) (a2 : Int32) (a3 : Int32) (a4 : Int32) (a5 : Int32) (hx1 : ∀ M0 : Mem, G x y 85 [] [] M0 (kx1 M0)) (hb : ∀ (b5 : Int32), ∀ M0 : Mem, G x y 3 [(0, .ref (y.2.1 143)), (1, .int a1), (2, .int a2), (3, .int a3), (4, .int a4), (5, .int b5)] [] M0 (kb b5 M0)) (M : Mem) : G x y 79 [(0, .ref (y.2.1 143)), (1, .int a1), (2, .int a2), (3, .int a3), (4, .int a4), (5, .int a5)] [] M (d_X9_keeper_B79 kx1 kb a1 a2 a3 a4 a5 M) := by
  unfold d_X9_keeper_B79
  refine G_iinc (pc := 79) (v := a5 + (1)) h.1 h.2.1 (fun v1 => [(5, .int v1), (0, .ref (y.2.1 143)), (1, .int a1), (2, .int a2), (3, .int a3), (4, .int a4)]) dX9_keeper_79 (by decide) 5 rfl rfl (fun _ => rfl) (fun v1 => ?_)
  refine G_goto (pc := 82) (tgt := 3) h.1 dX9_keeper_82 (by decide) ?_
  exact G_sub [1, 2, 3, 4, 5, 0] rfl (hb v1 M)
set_option maxRecDepth 20000 in
theorem gd_X9_keeper_L3_body {x : Cx} {y : Cy} (hy : Inj y) (h : OkM x y cX9_keeper RX9 6 (some .int) rX9_keeper) (a1 : Int32) (a2 : Int32) (a3 : Int32) (a4 : Int32) (kx1 : Mem → Ans) (hx1 : ∀ M0 : Mem, G x y 85 [] [] M0 (kx1 M0)) (kb : Int32 → Mem → Ans) (hb : ∀ (b5 : Int32), ∀ M0 : Mem, G x y 3 [(0, .ref (y.2.1 143)), (1, .int a1), (2, .int a2), (3, .int a3), (4, .int a4), (5, .int b5)] [] M0 (kb b5 M0)) (a5 : Int32) (M : Mem) : G x y 3 [(0, .ref (y.2.1 143)), (1, .int a1), (2, .int a2), (3, .int a3), (4, .int a4), (5, .int a5)] [] M (d_X9_keeper_L3_body a1 a2 a3 a4 kx1 kb a5 M) := by
  unfold d_X9_keeper_L3_body
  refine G_iload (pc := 3) h.1 dX9_keeper_3 5 rfl ?_
  refine G_aload_n (pc := 5) h.1 dX9_keeper_5 rfl 0 rfl ?_
  refine G_get (pc := 6) (v := .ref (y.2.1 144)) h.1 fl_X9_7 lN143 (eM143 _) rfl dX9_keeper_6 ?_
  refine G_iconst (pc := 9) (v := (5)) h.1 dX9_keeper_9 (by decide) ?_
  refine G_iald (pc := 10) h.1 lN144 (eM144 _) dX9_keeper_10 ?_
  refine G_icmp_ge (pc := 11) (tgt := 85) h.1 dX9_keeper_11 (by decide) ?_ ?_
  · exact G_sub [] rfl (hx1 M)
  · refine G_iload (pc := 14) h.1 dX9_keeper_14 5 rfl ?_
    refine G_iload (pc := 16) h.1 dX9_keeper_16 4 rfl ?_
    refine G_icmp_eq (pc := 18) (tgt := 79) h.1 dX9_keeper_18 (by decide) ?_ ?_
    · exact G_sub [0, 1, 2, 3, 4, 5] rfl (gd_X9_keeper_B79 hy h kx1 kb a1 a2 a3 a4 a5 hx1 hb M)
    · refine G_aload_n (pc := 21) h.1 dX9_keeper_21 rfl 0 rfl ?_
      refine G_iload (pc := 22) h.1 dX9_keeper_22 5 rfl ?_
      refine G_iconst (pc := 24) (v := (0)) h.1 dX9_keeper_24 (by decide) ?_
      refine G_callV (pc := 25) (As := [.int a5, .int (0 : Int32)]) (rest := []) h.1 h.2.2.1 lk_X9_56 lN143 (eM143 _) rfl rfl (c_X9_of x.1.2.1 y hy a5 (0 : Int32) M) rfl rfl (Nat.le_of_ble_eq_true rfl) ⟨rfl, rfl, Nat.le_of_ble_eq_true rfl, Nat.le_of_ble_eq_true rfl⟩ dX9_keeper_25 (fun r3 M2 => ?_)
      refine G_iload_n (pc := 28) h.1 dX9_keeper_28 rfl 1 rfl ?_
      refine G_icmp_ne (pc := 29) (tgt := 79) h.1 dX9_keeper_29 (by decide) ?_ ?_
      · exact G_sub [0, 1, 2, 3, 4, 5] rfl (gd_X9_keeper_B79 hy h kx1 kb a1 a2 a3 a4 a5 hx1 hb M2)
      · refine G_aload_n (pc := 32) h.1 dX9_keeper_32 rfl 0 rfl ?_
        refine G_iload (pc := 33) h.1 dX9_keeper_33 5 rfl ?_
        refine G_iconst (pc := 35) (v := (3)) h.1 dX9_keeper_35 (by decide) ?_
        refine G_callV (pc := 36) (As := [.int a5, .int (3 : Int32)]) (rest := []) h.1 h.2.2.1 lk_X9_56 lN143 (eM143 _) rfl rfl (c_X9_of x.1.2.1 y hy a5 (3 : Int32) M2) rfl rfl (Nat.le_of_ble_eq_true rfl) ⟨rfl, rfl, Nat.le_of_ble_eq_true rfl, Nat.le_of_ble_eq_true rfl⟩ dX9_keeper_36 (fun r5 M4 => ?_)
        refine G_iconst (pc := 39) (v := (2)) h.1 dX9_keeper_39 (by decide) ?_
        refine G_icmp_gt (pc := 40) (tgt := 79) h.1 dX9_keeper_40 (by decide) ?_ ?_
        · exact G_sub [0, 1, 2, 3, 4, 5] rfl (gd_X9_keeper_B79 hy h kx1 kb a1 a2 a3 a4 a5 hx1 hb M4)
        · refine G_aload_n (pc := 43) h.1 dX9_keeper_43 rfl 0 rfl ?_
          refine G_iload (pc := 44) h.1 dX9_keeper_44 5 rfl ?_
          refine G_iconst (pc := 46) (v := (2)) h.1 dX9_keeper_46 (by decide) ?_
          refine G_callV (pc := 47) (As := [.int a5, .int (2 : Int32)]) (rest := []) h.1 h.2.2.1 lk_X9_56 lN143 (eM143 _) rfl rfl (c_X9_of x.1.2.1 y hy a5 (2 : Int32) M4) rfl rfl (Nat.le_of_ble_eq_true rfl) ⟨rfl, rfl, Nat.le_of_ble_eq_true rfl, Nat.le_of_ble_eq_true rfl⟩ dX9_keeper_47 (fun r7 M6 => ?_)
          refine G_iload_n (pc := 50) h.1 dX9_keeper_50 rfl 3 rfl ?_
          refine G_icmp_gt (pc := 51) (tgt := 79) h.1 dX9_keeper_51 (by decide) ?_ ?_
          · exact G_sub [0, 1, 2, 3, 4, 5] rfl (gd_X9_keeper_B79 hy h kx1 kb a1 a2 a3 a4 a5 hx1 hb M6)
          · refine G_aload_n (pc := 54) h.1 dX9_keeper_54 rfl 0 rfl ?_
            refine G_aload_n (pc := 55) h.1 dX9_keeper_55 rfl 0 rfl ?_
            refine G_iload (pc := 56) h.1 dX9_keeper_56 5 rfl ?_
            refine G_iconst (pc := 58) (v := (1)) h.1 dX9_keeper_58 (by decide) ?_
            refine G_callV (pc := 59) (As := [.int a5, .int (1 : Int32)]) (rest := [.ref (y.2.1 143)]) h.1 h.2.2.1 lk_X9_56 lN143 (eM143 _) rfl rfl (c_X9_of x.1.2.1 y hy a5 (1 : Int32) M6) rfl rfl (Nat.le_of_ble_eq_true rfl) ⟨rfl, rfl, Nat.le_of_ble_eq_true rfl, Nat.le_of_ble_eq_true rfl⟩ dX9_keeper_59 (fun r9 M8 => ?_)
            refine G_aload_n (pc := 62) h.1 dX9_keeper_62 rfl 0 rfl ?_
            refine G_iload (pc := 63) h.1 dX9_keeper_63 5 rfl ?_
            refine G_iconst (pc := 65) (v := (2)) h.1 dX9_keeper_65 (by decide) ?_
            refine G_callV (pc := 66) (As := [.int a5, .int (2 : Int32)]) (rest := [.int r9, .ref (y.2.1 143)]) h.1 h.2.2.1 lk_X9_56 lN143 (eM143 _) rfl rfl (c_X9_of x.1.2.1 y hy a5 (2 : Int32) M8) rfl rfl (Nat.le_of_ble_eq_true rfl) ⟨rfl, rfl, Nat.le_of_ble_eq_true rfl, Nat.le_of_ble_eq_true rfl⟩ dX9_keeper_66 (fun r11 M10 => ?_)
            refine G_callV (pc := 69) (As := [.int r9, .int r11]) (rest := []) h.1 h.2.2.1 lk_X9_90 lN143 (eM143 _) rfl rfl (c_X9_last x.1.2.1 y hy r9 r11 M10) rfl rfl (Nat.le_of_ble_eq_true rfl) ⟨rfl, rfl, Nat.le_of_ble_eq_true rfl, Nat.le_of_ble_eq_true rfl⟩ dX9_keeper_69 (fun r13 M12 => ?_)
            refine G_iload_n (pc := 72) h.1 dX9_keeper_72 rfl 2 rfl ?_
            refine G_icmp_lt (pc := 73) (tgt := 79) h.1 dX9_keeper_73 (by decide) ?_ ?_
            · exact G_sub [0, 1, 2, 3, 4, 5] rfl (gd_X9_keeper_B79 hy h kx1 kb a1 a2 a3 a4 a5 hx1 hb M12)
            · refine G_iload (pc := 76) h.1 dX9_keeper_76 5 rfl ?_
              exact G_ret (pc := 78) h rfl dX9_keeper_78
set_option maxRecDepth 20000 in
theorem gd_X9_keeper_L3 {x : Cx} {y : Cy} (hy : Inj y) (h : OkM x y cX9_keeper RX9 6 (some .int) rX9_keeper) (a1 : Int32) (a2 : Int32) (a3 : Int32) (a4 : Int32) (kx1 : Mem → Ans) (hx1 : ∀ M0 : Mem, G x y 85 [] [] M0 (kx1 M0)) : ∀ (n : Nat) (a5 : Int32) (M : Mem), G x y 3 [(0, .ref (y.2.1 143)), (1, .int a1), (2, .int a2), (3, .int a3), (4, .int a4), (5, .int a5)] [] M (d_X9_keeper_L3 a1 a2 a3 a4 kx1 n a5 M) := by
  intro n
  induction n with
  | zero => intro a5 M; exact G_none
  | succ n ih => intro a5 M; exact gd_X9_keeper_L3_body hy h a1 a2 a3 a4 kx1 hx1 _ ih a5 M
set_option maxRecDepth 20000 in
theorem c_X9_keeper (l : Launch) (y : Cy) (hy : Inj y) (p1 : Int32) (p2 : Int32) (p3 : Int32) (p4 : Int32) (M : Mem) : CT l y yX9_keeper cX9_keeper 6 (some .int) rX9_keeper [.ref (y.2.1 143), .int p1, .int p2, .int p3, .int p4] M (d_X9_keeper p1 p2 p3 p4 M) := by
  refine CT_of (by decide) hy (Nat.le_of_ble_eq_true rfl) (fun x hxl h => ?_)
  show G x y 0 [(0, .ref (y.2.1 143)), (1, .int p1), (2, .int p2), (3, .int p3), (4, .int p4)] [] M _
  unfold d_X9_keeper
  refine G_iconst (pc := 0) (v := (0)) h.1 dX9_keeper_0 (by decide) ?_
  refine G_istore (pc := 1) h.1 h.2.1 [(5, .int (0 : Int32)), (0, .ref (y.2.1 143)), (1, .int p1), (2, .int p2), (3, .int p3), (4, .int p4)] dX9_keeper_1 (by decide) rfl ?_
  refine G_sub [1, 2, 3, 4, 5, 0] rfl (gd_X9_keeper_L3 hy h p1 p2 p3 p4 _ (fun M14 => ?_) fuelN (0 : Int32) M)
  refine G_bipush (pc := 85) (v := (-5)) h.1 dX9_keeper_85 (by decide) ?_
  exact G_ret (pc := 87) h rfl dX9_keeper_87
theorem dX9_bases_0 : decode cX9_bases 0 = .ok (.aload_n 0, 1) := by decide +kernel
theorem dX9_bases_1 : decode cX9_bases 1 = .ok (.iload_n 1, 1) := by decide +kernel
theorem dX9_bases_2 : decode cX9_bases 2 = .ok (.putfield 38, 3) := by decide +kernel
theorem dX9_bases_5 : decode cX9_bases 5 = .ok (.aload_n 0, 1) := by decide +kernel
theorem dX9_bases_6 : decode cX9_bases 6 = .ok (.invokevirtual 87, 3) := by decide +kernel
theorem dX9_bases_9 : decode cX9_bases 9 = .ok (.aload_n 0, 1) := by decide +kernel
theorem dX9_bases_10 : decode cX9_bases 10 = .ok (.iconst (-1), 1) := by decide +kernel
theorem dX9_bases_11 : decode cX9_bases 11 = .ok (.putfield 38, 3) := by decide +kernel
theorem dX9_bases_14 : decode cX9_bases 14 = .ok (.iconst 0, 1) := by decide +kernel
theorem dX9_bases_15 : decode cX9_bases 15 = .ok (.istore_n 2, 1) := by decide +kernel
theorem dX9_bases_16 : decode cX9_bases 16 = .ok (.iload_n 2, 1) := by decide +kernel
theorem dX9_bases_17 : decode cX9_bases 17 = .ok (.bipush 60, 2) := by decide +kernel
theorem dX9_bases_19 : decode cX9_bases 19 = .ok (.if_icmp .gt 21, 3) := by decide +kernel
theorem dX9_bases_22 : decode cX9_bases 22 = .ok (.aload_n 0, 1) := by decide +kernel
theorem dX9_bases_23 : decode cX9_bases 23 = .ok (.getfield 31, 3) := by decide +kernel
theorem dX9_bases_26 : decode cX9_bases 26 = .ok (.iload_n 2, 1) := by decide +kernel
theorem dX9_bases_27 : decode cX9_bases 27 = .ok (.aload_n 0, 1) := by decide +kernel
theorem dX9_bases_28 : decode cX9_bases 28 = .ok (.getfield 25, 3) := by decide +kernel
theorem dX9_bases_31 : decode cX9_bases 31 = .ok (.iload_n 2, 1) := by decide +kernel
theorem dX9_bases_32 : decode cX9_bases 32 = .ok (.iaload, 1) := by decide +kernel
theorem dX9_bases_33 : decode cX9_bases 33 = .ok (.iastore, 1) := by decide +kernel
theorem dX9_bases_34 : decode cX9_bases 34 = .ok (.iinc 2 1, 3) := by decide +kernel
theorem dX9_bases_37 : decode cX9_bases 37 = .ok (.goto (-21), 3) := by decide +kernel
theorem dX9_bases_40 : decode cX9_bases 40 = .ok (.return_, 1) := by decide +kernel
abbrev rX9_bases : Room := { frames := 4, cells := 0, slots := 0, locals := 91 }
set_option maxRecDepth 20000 in
theorem gd_X9_bases_L16_body {x : Cx} {y : Cy} (hy : Inj y) (h : OkM x y cX9_bases RX9 3 none rX9_bases) (kx1 : Mem → Ans) (hx1 : ∀ M0 : Mem, G x y 40 [] [] M0 (kx1 M0)) (kb : Int32 → Mem → Ans) (hb : ∀ (b2 : Int32), ∀ M0 : Mem, G x y 16 [(0, .ref (y.2.1 143)), (2, .int b2)] [] M0 (kb b2 M0)) (a2 : Int32) (M : Mem) : G x y 16 [(0, .ref (y.2.1 143)), (2, .int a2)] [] M (d_X9_bases_L16_body kx1 kb a2 M) := by
  unfold d_X9_bases_L16_body
  refine G_iload_n (pc := 16) h.1 dX9_bases_16 rfl 1 rfl ?_
  refine G_bipush (pc := 17) (v := (60)) h.1 dX9_bases_17 (by decide) ?_
  refine G_icmp_gt (pc := 19) (tgt := 40) h.1 dX9_bases_19 (by decide) ?_ ?_
  · exact G_sub [] rfl (hx1 M)
  · refine G_aload_n (pc := 22) h.1 dX9_bases_22 rfl 0 rfl ?_
    refine G_get (pc := 23) (v := .ref (y.2.1 151)) h.1 fl_X9_31 lN143 (eM143 _) rfl dX9_bases_23 ?_
    refine G_iload_n (pc := 26) h.1 dX9_bases_26 rfl 1 rfl ?_
    refine G_aload_n (pc := 27) h.1 dX9_bases_27 rfl 0 rfl ?_
    refine G_get (pc := 28) (v := .ref (y.2.1 149)) h.1 fl_X9_25 lN143 (eM143 _) rfl dX9_bases_28 ?_
    refine G_iload_n (pc := 31) h.1 dX9_bases_31 rfl 1 rfl ?_
    refine G_iald (pc := 32) h.1 lN149 (eM149 _) dX9_bases_32 ?_
    refine G_iast (pc := 33) h.1 lN151 (fun m => eM151 m) dX9_bases_33 (fun M5 => ?_)
    refine G_iinc (pc := 34) (v := a2 + (1)) h.1 h.2.1 (fun v6 => [(2, .int v6), (0, .ref (y.2.1 143))]) dX9_bases_34 (by decide) 1 rfl rfl (fun _ => rfl) (fun v6 => ?_)
    refine G_goto (pc := 37) (tgt := 16) h.1 dX9_bases_37 (by decide) ?_
    exact G_sub [1, 0] rfl (hb v6 M5)
set_option maxRecDepth 20000 in
theorem gd_X9_bases_L16 {x : Cx} {y : Cy} (hy : Inj y) (h : OkM x y cX9_bases RX9 3 none rX9_bases) (kx1 : Mem → Ans) (hx1 : ∀ M0 : Mem, G x y 40 [] [] M0 (kx1 M0)) : ∀ (n : Nat) (a2 : Int32) (M : Mem), G x y 16 [(0, .ref (y.2.1 143)), (2, .int a2)] [] M (d_X9_bases_L16 kx1 n a2 M) := by
  intro n
  induction n with
  | zero => intro a2 M; exact G_none
  | succ n ih => intro a2 M; exact gd_X9_bases_L16_body hy h kx1 hx1 _ ih a2 M
set_option maxRecDepth 20000 in
theorem c_X9_bases (l : Launch) (y : Cy) (hy : Inj y) (p1 : Int32) (M : Mem) : CT l y yX9_bases cX9_bases 3 none rX9_bases [.ref (y.2.1 143), .int p1] M (d_X9_bases p1 M) := by
  refine CT_of (by decide) hy (Nat.le_of_ble_eq_true rfl) (fun x hxl h => ?_)
  show G x y 0 [(0, .ref (y.2.1 143)), (1, .int p1)] [] M _
  unfold d_X9_bases
  refine G_aload_n (pc := 0) h.1 dX9_bases_0 rfl 0 rfl ?_
  refine G_iload_n (pc := 1) h.1 dX9_bases_1 rfl 1 rfl ?_
  refine G_put (pc := 2) h.1 fp_X9_38 lN143 (fun m => eM143 m) (fun _ => rfl) (fun _ => Nat.le_of_ble_eq_true rfl) rfl rfl dX9_bases_2 (fun M1 => ?_)
  refine G_aload_n (pc := 5) h.1 dX9_bases_5 rfl 0 rfl ?_
  refine G_callVv (pc := 6) (As := []) (rest := []) h.1 h.2.2.1 lk_X9_87 lN143 (eM143 _) rfl rfl (c_X9_forecast x.1.2.1 y hy M1) rfl rfl (Nat.le_of_ble_eq_true rfl) ⟨rfl, rfl, Nat.le_of_ble_eq_true rfl, Nat.le_of_ble_eq_true rfl⟩ dX9_bases_6 (fun r3 M2 => ?_)
  refine G_aload_n (pc := 9) h.1 dX9_bases_9 rfl 0 rfl ?_
  refine G_iconst (pc := 10) (v := (-1)) h.1 dX9_bases_10 (by decide) ?_
  refine G_put (pc := 11) h.1 fp_X9_38 lN143 (fun m => eM143 m) (fun _ => rfl) (fun _ => Nat.le_of_ble_eq_true rfl) rfl rfl dX9_bases_11 (fun M4 => ?_)
  refine G_iconst (pc := 14) (v := (0)) h.1 dX9_bases_14 (by decide) ?_
  refine G_istore_n (pc := 15) h.1 h.2.1 [(2, .int (0 : Int32)), (0, .ref (y.2.1 143)), (1, .int p1)] dX9_bases_15 rfl (by decide) rfl ?_
  refine G_sub [1, 0] rfl (gd_X9_bases_L16 hy h _ (fun M7 => ?_) fuelN (0 : Int32) M4)
  exact G_vret (pc := 40) h dX9_bases_40
theorem dX9_reason_0 : decode cX9_reason 0 = .ok (.aload_n 0, 1) := by decide +kernel
theorem dX9_reason_1 : decode cX9_reason 1 = .ok (.iload_n 1, 1) := by decide +kernel
theorem dX9_reason_2 : decode cX9_reason 2 = .ok (.iload_n 3, 1) := by decide +kernel
theorem dX9_reason_3 : decode cX9_reason 3 = .ok (.aload_n 0, 1) := by decide +kernel
theorem dX9_reason_4 : decode cX9_reason 4 = .ok (.iload_n 2, 1) := by decide +kernel
theorem dX9_reason_5 : decode cX9_reason 5 = .ok (.iload_n 3, 1) := by decide +kernel
theorem dX9_reason_6 : decode cX9_reason 6 = .ok (.invokevirtual 90, 3) := by decide +kernel
theorem dX9_reason_9 : decode cX9_reason 9 = .ok (.iload 4, 2) := by decide +kernel
theorem dX9_reason_11 : decode cX9_reason 11 = .ok (.invokevirtual 93, 3) := by decide +kernel
theorem dX9_reason_14 : decode cX9_reason 14 = .ok (.bipush (-5), 2) := by decide +kernel
theorem dX9_reason_16 : decode cX9_reason 16 = .ok (.if_icmp .eq 5, 3) := by decide +kernel
theorem dX9_reason_19 : decode cX9_reason 19 = .ok (.iconst 1, 1) := by decide +kernel
theorem dX9_reason_20 : decode cX9_reason 20 = .ok (.ireturn, 1) := by decide +kernel
theorem dX9_reason_21 : decode cX9_reason 21 = .ok (.iload 4, 2) := by decide +kernel
theorem dX9_reason_23 : decode cX9_reason 23 = .ok (.ifCond .ge 16, 3) := by decide +kernel
theorem dX9_reason_26 : decode cX9_reason 26 = .ok (.aload_n 0, 1) := by decide +kernel
theorem dX9_reason_27 : decode cX9_reason 27 = .ok (.iload_n 2, 1) := by decide +kernel
theorem dX9_reason_28 : decode cX9_reason 28 = .ok (.putfield 34, 3) := by decide +kernel
theorem dX9_reason_31 : decode cX9_reason 31 = .ok (.aload_n 0, 1) := by decide +kernel
theorem dX9_reason_32 : decode cX9_reason 32 = .ok (.iload_n 3, 1) := by decide +kernel
theorem dX9_reason_33 : decode cX9_reason 33 = .ok (.putfield 77, 3) := by decide +kernel
theorem dX9_reason_36 : decode cX9_reason 36 = .ok (.goto 14, 3) := by decide +kernel
theorem dX9_reason_39 : decode cX9_reason 39 = .ok (.aload_n 0, 1) := by decide +kernel
theorem dX9_reason_40 : decode cX9_reason 40 = .ok (.iload 4, 2) := by decide +kernel
theorem dX9_reason_42 : decode cX9_reason 42 = .ok (.putfield 41, 3) := by decide +kernel
theorem dX9_reason_45 : decode cX9_reason 45 = .ok (.aload_n 0, 1) := by decide +kernel
theorem dX9_reason_46 : decode cX9_reason 46 = .ok (.iload_n 3, 1) := by decide +kernel
theorem dX9_reason_47 : decode cX9_reason 47 = .ok (.putfield 70, 3) := by decide +kernel
theorem dX9_reason_50 : decode cX9_reason 50 = .ok (.aload_n 0, 1) := by decide +kernel
theorem dX9_reason_51 : decode cX9_reason 51 = .ok (.invokevirtual 87, 3) := by decide +kernel
theorem dX9_reason_54 : decode cX9_reason 54 = .ok (.aload_n 0, 1) := by decide +kernel
theorem dX9_reason_55 : decode cX9_reason 55 = .ok (.iconst (-1), 1) := by decide +kernel
theorem dX9_reason_56 : decode cX9_reason 56 = .ok (.putfield 34, 3) := by decide +kernel
theorem dX9_reason_59 : decode cX9_reason 59 = .ok (.aload_n 0, 1) := by decide +kernel
theorem dX9_reason_60 : decode cX9_reason 60 = .ok (.iconst (-1), 1) := by decide +kernel
theorem dX9_reason_61 : decode cX9_reason 61 = .ok (.putfield 41, 3) := by decide +kernel
theorem dX9_reason_64 : decode cX9_reason 64 = .ok (.iload 4, 2) := by decide +kernel
theorem dX9_reason_66 : decode cX9_reason 66 = .ok (.ifCond .ge 8, 3) := by decide +kernel
theorem dX9_reason_69 : decode cX9_reason 69 = .ok (.bipush 60, 2) := by decide +kernel
theorem dX9_reason_71 : decode cX9_reason 71 = .ok (.goto 5, 3) := by decide +kernel
theorem dX9_reason_74 : decode cX9_reason 74 = .ok (.iload 4, 2) := by decide +kernel
theorem dX9_reason_76 : decode cX9_reason 76 = .ok (.istore 5, 2) := by decide +kernel
theorem dX9_reason_78 : decode cX9_reason 78 = .ok (.aload_n 0, 1) := by decide +kernel
theorem dX9_reason_79 : decode cX9_reason 79 = .ok (.getfield 25, 3) := by decide +kernel
theorem dX9_reason_82 : decode cX9_reason 82 = .ok (.iload 5, 2) := by decide +kernel
theorem dX9_reason_84 : decode cX9_reason 84 = .ok (.iaload, 1) := by decide +kernel
theorem dX9_reason_85 : decode cX9_reason 85 = .ok (.ifCond .le 5, 3) := by decide +kernel
theorem dX9_reason_88 : decode cX9_reason 88 = .ok (.iconst 2, 1) := by decide +kernel
theorem dX9_reason_89 : decode cX9_reason 89 = .ok (.ireturn, 1) := by decide +kernel
theorem dX9_reason_90 : decode cX9_reason 90 = .ok (.iconst 0, 1) := by decide +kernel
theorem dX9_reason_91 : decode cX9_reason 91 = .ok (.istore 6, 2) := by decide +kernel
theorem dX9_reason_93 : decode cX9_reason 93 = .ok (.iload 6, 2) := by decide +kernel
theorem dX9_reason_95 : decode cX9_reason 95 = .ok (.aload_n 0, 1) := by decide +kernel
theorem dX9_reason_96 : decode cX9_reason 96 = .ok (.getfield 7, 3) := by decide +kernel
theorem dX9_reason_99 : decode cX9_reason 99 = .ok (.iconst 5, 1) := by decide +kernel
theorem dX9_reason_100 : decode cX9_reason 100 = .ok (.iaload, 1) := by decide +kernel
theorem dX9_reason_101 : decode cX9_reason 101 = .ok (.if_icmp .ge 44, 3) := by decide +kernel
theorem dX9_reason_104 : decode cX9_reason 104 = .ok (.iload 6, 2) := by decide +kernel
theorem dX9_reason_106 : decode cX9_reason 106 = .ok (.iload 5, 2) := by decide +kernel
theorem dX9_reason_108 : decode cX9_reason 108 = .ok (.if_icmp .eq 31, 3) := by decide +kernel
theorem dX9_reason_111 : decode cX9_reason 111 = .ok (.aload_n 0, 1) := by decide +kernel
theorem dX9_reason_112 : decode cX9_reason 112 = .ok (.getfield 25, 3) := by decide +kernel
theorem dX9_reason_115 : decode cX9_reason 115 = .ok (.iload 6, 2) := by decide +kernel
theorem dX9_reason_117 : decode cX9_reason 117 = .ok (.iaload, 1) := by decide +kernel
theorem dX9_reason_118 : decode cX9_reason 118 = .ok (.ifCond .le 21, 3) := by decide +kernel
theorem dX9_reason_121 : decode cX9_reason 121 = .ok (.aload_n 0, 1) := by decide +kernel
theorem dX9_reason_122 : decode cX9_reason 122 = .ok (.getfield 31, 3) := by decide +kernel
theorem dX9_reason_125 : decode cX9_reason 125 = .ok (.iload 6, 2) := by decide +kernel
theorem dX9_reason_127 : decode cX9_reason 127 = .ok (.iaload, 1) := by decide +kernel
theorem dX9_reason_128 : decode cX9_reason 128 = .ok (.ifCond .ne 11, 3) := by decide +kernel
theorem dX9_reason_131 : decode cX9_reason 131 = .ok (.aload_n 0, 1) := by decide +kernel
theorem dX9_reason_132 : decode cX9_reason 132 = .ok (.iload 6, 2) := by decide +kernel
theorem dX9_reason_134 : decode cX9_reason 134 = .ok (.putfield 97, 3) := by decide +kernel
theorem dX9_reason_137 : decode cX9_reason 137 = .ok (.iconst 3, 1) := by decide +kernel
theorem dX9_reason_138 : decode cX9_reason 138 = .ok (.ireturn, 1) := by decide +kernel
theorem dX9_reason_139 : decode cX9_reason 139 = .ok (.iinc 6 1, 3) := by decide +kernel
theorem dX9_reason_142 : decode cX9_reason 142 = .ok (.goto (-49), 3) := by decide +kernel
theorem dX9_reason_145 : decode cX9_reason 145 = .ok (.iconst 0, 1) := by decide +kernel
theorem dX9_reason_146 : decode cX9_reason 146 = .ok (.ireturn, 1) := by decide +kernel
abbrev rX9_reason : Room := { frames := 4, cells := 0, slots := 0, locals := 91 }
set_option maxRecDepth 20000 in
theorem gd_X9_reason_B139 {x : Cx} {y : Cy} (hy : Inj y) (h : OkM x y cX9_reason RX9 7 (some .int) rX9_reason) (kx1 : Mem → Ans) (kb : Int32 → Mem → Ans) (a5 : Int32) (a6 : Int32) (hx1 : ∀ M0 : Mem, G x y 145 [] [] M0 (kx1 M0)) (hb : ∀ (b6 : Int32), ∀ M0 : Mem, G x y 93 [(0, .ref (y.2.1 143)), (5, .int a5), (6, .int b6)] [] M0 (kb b6 M0)) (M : Mem) : G x y 139 [(0, .ref (y.2.1 143)), (5, .int a5), (6, .int a6)] [] M (d_X9_reason_B139 kx1 kb a5 a6 M) := by
  unfold d_X9_reason_B139
  refine G_iinc (pc := 139) (v := a6 + (1)) h.1 h.2.1 (fun v11 => [(6, .int v11), (0, .ref (y.2.1 143)), (5, .int a5)]) dX9_reason_139 (by decide) 2 rfl rfl (fun _ => rfl) (fun v11 => ?_)
  refine G_goto (pc := 142) (tgt := 93) h.1 dX9_reason_142 (by decide) ?_
  exact G_sub [1, 2, 0] rfl (hb v11 M)
set_option maxRecDepth 20000 in
theorem gd_X9_reason_L93_body {x : Cx} {y : Cy} (hy : Inj y) (h : OkM x y cX9_reason RX9 7 (some .int) rX9_reason) (a5 : Int32) (kx1 : Mem → Ans) (hx1 : ∀ M0 : Mem, G x y 145 [] [] M0 (kx1 M0)) (kb : Int32 → Mem → Ans) (hb : ∀ (b6 : Int32), ∀ M0 : Mem, G x y 93 [(0, .ref (y.2.1 143)), (5, .int a5), (6, .int b6)] [] M0 (kb b6 M0)) (a6 : Int32) (M : Mem) : G x y 93 [(0, .ref (y.2.1 143)), (5, .int a5), (6, .int a6)] [] M (d_X9_reason_L93_body a5 kx1 kb a6 M) := by
  unfold d_X9_reason_L93_body
  refine G_iload (pc := 93) h.1 dX9_reason_93 2 rfl ?_
  refine G_aload_n (pc := 95) h.1 dX9_reason_95 rfl 0 rfl ?_
  refine G_get (pc := 96) (v := .ref (y.2.1 144)) h.1 fl_X9_7 lN143 (eM143 _) rfl dX9_reason_96 ?_
  refine G_iconst (pc := 99) (v := (5)) h.1 dX9_reason_99 (by decide) ?_
  refine G_iald (pc := 100) h.1 lN144 (eM144 _) dX9_reason_100 ?_
  refine G_icmp_ge (pc := 101) (tgt := 145) h.1 dX9_reason_101 (by decide) ?_ ?_
  · exact G_sub [] rfl (hx1 M)
  · refine G_iload (pc := 104) h.1 dX9_reason_104 2 rfl ?_
    refine G_iload (pc := 106) h.1 dX9_reason_106 1 rfl ?_
    refine G_icmp_eq (pc := 108) (tgt := 139) h.1 dX9_reason_108 (by decide) ?_ ?_
    · exact G_sub [0, 1, 2] rfl (gd_X9_reason_B139 hy h kx1 kb a5 a6 hx1 hb M)
    · refine G_aload_n (pc := 111) h.1 dX9_reason_111 rfl 0 rfl ?_
      refine G_get (pc := 112) (v := .ref (y.2.1 149)) h.1 fl_X9_25 lN143 (eM143 _) rfl dX9_reason_112 ?_
      refine G_iload (pc := 115) h.1 dX9_reason_115 2 rfl ?_
      refine G_iald (pc := 117) h.1 lN149 (eM149 _) dX9_reason_117 ?_
      refine G_if_le (pc := 118) (tgt := 139) h.1 dX9_reason_118 (by decide) ?_ ?_
      · exact G_sub [0, 1, 2] rfl (gd_X9_reason_B139 hy h kx1 kb a5 a6 hx1 hb M)
      · refine G_aload_n (pc := 121) h.1 dX9_reason_121 rfl 0 rfl ?_
        refine G_get (pc := 122) (v := .ref (y.2.1 151)) h.1 fl_X9_31 lN143 (eM143 _) rfl dX9_reason_122 ?_
        refine G_iload (pc := 125) h.1 dX9_reason_125 2 rfl ?_
        refine G_iald (pc := 127) h.1 lN151 (eM151 _) dX9_reason_127 ?_
        refine G_if_ne (pc := 128) (tgt := 139) h.1 dX9_reason_128 (by decide) ?_ ?_
        · exact G_sub [0, 1, 2] rfl (gd_X9_reason_B139 hy h kx1 kb a5 a6 hx1 hb M)
        · refine G_aload_n (pc := 131) h.1 dX9_reason_131 rfl 0 rfl ?_
          refine G_iload (pc := 132) h.1 dX9_reason_132 2 rfl ?_
          refine G_put (pc := 134) h.1 fp_X9_97 lN143 (fun m => eM143 m) (fun _ => rfl) (fun _ => Nat.le_of_ble_eq_true rfl) rfl rfl dX9_reason_134 (fun M12 => ?_)
          refine G_iconst (pc := 137) (v := (3)) h.1 dX9_reason_137 (by decide) ?_
          exact G_ret (pc := 138) h rfl dX9_reason_138
set_option maxRecDepth 20000 in
theorem gd_X9_reason_L93 {x : Cx} {y : Cy} (hy : Inj y) (h : OkM x y cX9_reason RX9 7 (some .int) rX9_reason) (a5 : Int32) (kx1 : Mem → Ans) (hx1 : ∀ M0 : Mem, G x y 145 [] [] M0 (kx1 M0)) : ∀ (n : Nat) (a6 : Int32) (M : Mem), G x y 93 [(0, .ref (y.2.1 143)), (5, .int a5), (6, .int a6)] [] M (d_X9_reason_L93 a5 kx1 n a6 M) := by
  intro n
  induction n with
  | zero => intro a6 M; exact G_none
  | succ n ih => intro a6 M; exact gd_X9_reason_L93_body hy h a5 kx1 hx1 _ ih a6 M
set_option maxRecDepth 20000 in
theorem gd_X9_reason_B76 {x : Cx} {y : Cy} (hy : Inj y) (h : OkM x y cX9_reason RX9 7 (some .int) rX9_reason) (s0 : Int32) (M : Mem) : G x y 76 [(0, .ref (y.2.1 143))] [.int s0] M (d_X9_reason_B76 s0 M) := by
  unfold d_X9_reason_B76
  refine G_istore (pc := 76) h.1 h.2.1 [(5, .int s0), (0, .ref (y.2.1 143))] dX9_reason_76 (by decide) rfl ?_
  refine G_aload_n (pc := 78) h.1 dX9_reason_78 rfl 1 rfl ?_
  refine G_get (pc := 79) (v := .ref (y.2.1 149)) h.1 fl_X9_25 lN143 (eM143 _) rfl dX9_reason_79 ?_
  refine G_iload (pc := 82) h.1 dX9_reason_82 0 rfl ?_
  refine G_iald (pc := 84) h.1 lN149 (eM149 _) dX9_reason_84 ?_
  refine G_if_le (pc := 85) (tgt := 90) h.1 dX9_reason_85 (by decide) ?_ ?_
  · refine G_iconst (pc := 90) (v := (0)) h.1 dX9_reason_90 (by decide) ?_
    refine G_istore (pc := 91) h.1 h.2.1 [(6, .int (0 : Int32)), (5, .int s0), (0, .ref (y.2.1 143))] dX9_reason_91 (by decide) rfl ?_
    refine G_sub [2, 1, 0] rfl (gd_X9_reason_L93 hy h s0 _ (fun M13 => ?_) fuelN (0 : Int32) M)
    refine G_iconst (pc := 145) (v := (0)) h.1 dX9_reason_145 (by decide) ?_
    exact G_ret (pc := 146) h rfl dX9_reason_146
  · refine G_iconst (pc := 88) (v := (2)) h.1 dX9_reason_88 (by decide) ?_
    exact G_ret (pc := 89) h rfl dX9_reason_89
set_option maxRecDepth 20000 in
theorem gd_X9_reason_B50 {x : Cx} {y : Cy} (hy : Inj y) (h : OkM x y cX9_reason RX9 7 (some .int) rX9_reason) (a4 : Int32) (M : Mem) : G x y 50 [(0, .ref (y.2.1 143)), (4, .int a4)] [] M (d_X9_reason_B50 a4 M) := by
  unfold d_X9_reason_B50
  refine G_aload_n (pc := 50) h.1 dX9_reason_50 rfl 0 rfl ?_
  refine G_callVv (pc := 51) (As := []) (rest := []) h.1 h.2.2.1 lk_X9_87 lN143 (eM143 _) rfl rfl (c_X9_forecast x.1.2.1 y hy M) rfl rfl (Nat.le_of_ble_eq_true rfl) ⟨rfl, rfl, Nat.le_of_ble_eq_true rfl, Nat.le_of_ble_eq_true rfl⟩ dX9_reason_51 (fun r8 M7 => ?_)
  refine G_aload_n (pc := 54) h.1 dX9_reason_54 rfl 0 rfl ?_
  refine G_iconst (pc := 55) (v := (-1)) h.1 dX9_reason_55 (by decide) ?_
  refine G_put (pc := 56) h.1 fp_X9_34 lN143 (fun m => eM143 m) (fun _ => rfl) (fun _ => Nat.le_of_ble_eq_true rfl) rfl rfl dX9_reason_56 (fun M9 => ?_)
  refine G_aload_n (pc := 59) h.1 dX9_reason_59 rfl 0 rfl ?_
  refine G_iconst (pc := 60) (v := (-1)) h.1 dX9_reason_60 (by decide) ?_
  refine G_put (pc := 61) h.1 fp_X9_41 lN143 (fun m => eM143 m) (fun _ => rfl) (fun _ => Nat.le_of_ble_eq_true rfl) rfl rfl dX9_reason_61 (fun M10 => ?_)
  refine G_iload (pc := 64) h.1 dX9_reason_64 1 rfl ?_
  refine G_if_ge (pc := 66) (tgt := 74) h.1 dX9_reason_66 (by decide) ?_ ?_
  · refine G_iload (pc := 74) h.1 dX9_reason_74 1 rfl ?_
    exact G_sub [0] rfl (gd_X9_reason_B76 hy h a4 M10)
  · refine G_bipush (pc := 69) (v := (60)) h.1 dX9_reason_69 (by decide) ?_
    refine G_goto (pc := 71) (tgt := 76) h.1 dX9_reason_71 (by decide) ?_
    exact G_sub [0] rfl (gd_X9_reason_B76 hy h (60 : Int32) M10)
set_option maxRecDepth 20000 in
theorem c_X9_reason (l : Launch) (y : Cy) (hy : Inj y) (p1 : Int32) (p2 : Int32) (p3 : Int32) (p4 : Int32) (M : Mem) : CT l y yX9_reason cX9_reason 7 (some .int) rX9_reason [.ref (y.2.1 143), .int p1, .int p2, .int p3, .int p4] M (d_X9_reason p1 p2 p3 p4 M) := by
  refine CT_of (by decide) hy (Nat.le_of_ble_eq_true rfl) (fun x hxl h => ?_)
  show G x y 0 [(0, .ref (y.2.1 143)), (1, .int p1), (2, .int p2), (3, .int p3), (4, .int p4)] [] M _
  unfold d_X9_reason
  refine G_aload_n (pc := 0) h.1 dX9_reason_0 rfl 0 rfl ?_
  refine G_iload_n (pc := 1) h.1 dX9_reason_1 rfl 1 rfl ?_
  refine G_iload_n (pc := 2) h.1 dX9_reason_2 rfl 3 rfl ?_
  refine G_aload_n (pc := 3) h.1 dX9_reason_3 rfl 0 rfl ?_
  refine G_iload_n (pc := 4) h.1 dX9_reason_4 rfl 2 rfl ?_
  refine G_iload_n (pc := 5) h.1 dX9_reason_5 rfl 3 rfl ?_
  refine G_callV (pc := 6) (As := [.int p2, .int p3]) (rest := [.int p3, .int p1, .ref (y.2.1 143)]) h.1 h.2.2.1 lk_X9_90 lN143 (eM143 _) rfl rfl (c_X9_last x.1.2.1 y hy p2 p3 M) rfl rfl (Nat.le_of_ble_eq_true rfl) ⟨rfl, rfl, Nat.le_of_ble_eq_true rfl, Nat.le_of_ble_eq_true rfl⟩ dX9_reason_6 (fun r2 M1 => ?_)
  refine G_iload (pc := 9) h.1 dX9_reason_9 4 rfl ?_
  refine G_callV (pc := 11) (As := [.int p1, .int p3, .int r2, .int p4]) (rest := []) h.1 h.2.2.1 lk_X9_93 lN143 (eM143 _) rfl rfl (c_X9_keeper x.1.2.1 y hy p1 p3 r2 p4 M1) rfl rfl (Nat.le_of_ble_eq_true rfl) ⟨rfl, rfl, Nat.le_of_ble_eq_true rfl, Nat.le_of_ble_eq_true rfl⟩ dX9_reason_11 (fun r4 M3 => ?_)
  refine G_bipush (pc := 14) (v := (-5)) h.1 dX9_reason_14 (by decide) ?_
  refine G_icmp_eq (pc := 16) (tgt := 21) h.1 dX9_reason_16 (by decide) ?_ ?_
  · refine G_iload (pc := 21) h.1 dX9_reason_21 4 rfl ?_
    refine G_if_ge (pc := 23) (tgt := 39) h.1 dX9_reason_23 (by decide) ?_ ?_
    · refine G_aload_n (pc := 39) h.1 dX9_reason_39 rfl 0 rfl ?_
      refine G_iload (pc := 40) h.1 dX9_reason_40 4 rfl ?_
      refine G_put (pc := 42) h.1 fp_X9_41 lN143 (fun m => eM143 m) (fun _ => rfl) (fun _ => Nat.le_of_ble_eq_true rfl) rfl rfl dX9_reason_42 (fun M5 => ?_)
      refine G_aload_n (pc := 45) h.1 dX9_reason_45 rfl 0 rfl ?_
      refine G_iload_n (pc := 46) h.1 dX9_reason_46 rfl 3 rfl ?_
      refine G_put (pc := 47) h.1 fp_X9_70 lN143 (fun m => eM143 m) (fun _ => rfl) (fun _ => Nat.le_of_ble_eq_true rfl) rfl rfl dX9_reason_47 (fun M6 => ?_)
      exact G_sub [0, 4] rfl (gd_X9_reason_B50 hy h p4 M6)
    · refine G_aload_n (pc := 26) h.1 dX9_reason_26 rfl 0 rfl ?_
      refine G_iload_n (pc := 27) h.1 dX9_reason_27 rfl 2 rfl ?_
      refine G_put (pc := 28) h.1 fp_X9_34 lN143 (fun m => eM143 m) (fun _ => rfl) (fun _ => Nat.le_of_ble_eq_true rfl) rfl rfl dX9_reason_28 (fun M14 => ?_)
      refine G_aload_n (pc := 31) h.1 dX9_reason_31 rfl 0 rfl ?_
      refine G_iload_n (pc := 32) h.1 dX9_reason_32 rfl 3 rfl ?_
      refine G_put (pc := 33) h.1 fp_X9_77 lN143 (fun m => eM143 m) (fun _ => rfl) (fun _ => Nat.le_of_ble_eq_true rfl) rfl rfl dX9_reason_33 (fun M15 => ?_)
      refine G_goto (pc := 36) (tgt := 50) h.1 dX9_reason_36 (by decide) ?_
      exact G_sub [0, 4] rfl (gd_X9_reason_B50 hy h p4 M15)
  · refine G_iconst (pc := 19) (v := (1)) h.1 dX9_reason_19 (by decide) ?_
    exact G_ret (pc := 20) h rfl dX9_reason_20
theorem dX9_first_0 : decode cX9_first 0 = .ok (.iload_n 3, 1) := by decide +kernel
theorem dX9_first_1 : decode cX9_first 1 = .ok (.aload_n 0, 1) := by decide +kernel
theorem dX9_first_2 : decode cX9_first 2 = .ok (.getfield 7, 3) := by decide +kernel
theorem dX9_first_5 : decode cX9_first 5 = .ok (.iconst 0, 1) := by decide +kernel
theorem dX9_first_6 : decode cX9_first 6 = .ok (.iaload, 1) := by decide +kernel
theorem dX9_first_7 : decode cX9_first 7 = .ok (.if_icmp .le 7, 3) := by decide +kernel
theorem dX9_first_10 : decode cX9_first 10 = .ok (.iload_n 3, 1) := by decide +kernel
theorem dX9_first_11 : decode cX9_first 11 = .ok (.goto 11, 3) := by decide +kernel
theorem dX9_first_14 : decode cX9_first 14 = .ok (.aload_n 0, 1) := by decide +kernel
theorem dX9_first_15 : decode cX9_first 15 = .ok (.getfield 7, 3) := by decide +kernel
theorem dX9_first_18 : decode cX9_first 18 = .ok (.iconst 0, 1) := by decide +kernel
theorem dX9_first_19 : decode cX9_first 19 = .ok (.iaload, 1) := by decide +kernel
theorem dX9_first_20 : decode cX9_first 20 = .ok (.iconst 1, 1) := by decide +kernel
theorem dX9_first_21 : decode cX9_first 21 = .ok (.iadd, 1) := by decide +kernel
theorem dX9_first_22 : decode cX9_first 22 = .ok (.istore 6, 2) := by decide +kernel
theorem dX9_first_24 : decode cX9_first 24 = .ok (.iload 4, 2) := by decide +kernel
theorem dX9_first_26 : decode cX9_first 26 = .ok (.aload_n 0, 1) := by decide +kernel
theorem dX9_first_27 : decode cX9_first 27 = .ok (.getfield 7, 3) := by decide +kernel
theorem dX9_first_30 : decode cX9_first 30 = .ok (.iconst 0, 1) := by decide +kernel
theorem dX9_first_31 : decode cX9_first 31 = .ok (.iaload, 1) := by decide +kernel
theorem dX9_first_32 : decode cX9_first 32 = .ok (.bipush 60, 2) := by decide +kernel
theorem dX9_first_34 : decode cX9_first 34 = .ok (.iadd, 1) := by decide +kernel
theorem dX9_first_35 : decode cX9_first 35 = .ok (.if_icmp .ge 8, 3) := by decide +kernel
theorem dX9_first_38 : decode cX9_first 38 = .ok (.iload 4, 2) := by decide +kernel
theorem dX9_first_40 : decode cX9_first 40 = .ok (.goto 12, 3) := by decide +kernel
theorem dX9_first_43 : decode cX9_first 43 = .ok (.aload_n 0, 1) := by decide +kernel
theorem dX9_first_44 : decode cX9_first 44 = .ok (.getfield 7, 3) := by decide +kernel
theorem dX9_first_47 : decode cX9_first 47 = .ok (.iconst 0, 1) := by decide +kernel
theorem dX9_first_48 : decode cX9_first 48 = .ok (.iaload, 1) := by decide +kernel
theorem dX9_first_49 : decode cX9_first 49 = .ok (.bipush 60, 2) := by decide +kernel
theorem dX9_first_51 : decode cX9_first 51 = .ok (.iadd, 1) := by decide +kernel
theorem dX9_first_52 : decode cX9_first 52 = .ok (.istore 7, 2) := by decide +kernel
theorem dX9_first_54 : decode cX9_first 54 = .ok (.iload 6, 2) := by decide +kernel
theorem dX9_first_56 : decode cX9_first 56 = .ok (.istore 8, 2) := by decide +kernel
theorem dX9_first_58 : decode cX9_first 58 = .ok (.iload 8, 2) := by decide +kernel
theorem dX9_first_60 : decode cX9_first 60 = .ok (.iload 7, 2) := by decide +kernel
theorem dX9_first_62 : decode cX9_first 62 = .ok (.if_icmp .gt 25, 3) := by decide +kernel
theorem dX9_first_65 : decode cX9_first 65 = .ok (.aload_n 0, 1) := by decide +kernel
theorem dX9_first_66 : decode cX9_first 66 = .ok (.iload_n 1, 1) := by decide +kernel
theorem dX9_first_67 : decode cX9_first 67 = .ok (.iload_n 2, 1) := by decide +kernel
theorem dX9_first_68 : decode cX9_first 68 = .ok (.iload 8, 2) := by decide +kernel
theorem dX9_first_70 : decode cX9_first 70 = .ok (.iload 5, 2) := by decide +kernel
theorem dX9_first_72 : decode cX9_first 72 = .ok (.invokevirtual 100, 3) := by decide +kernel
theorem dX9_first_75 : decode cX9_first 75 = .ok (.ifCond .ne 6, 3) := by decide +kernel
theorem dX9_first_78 : decode cX9_first 78 = .ok (.iload 8, 2) := by decide +kernel
theorem dX9_first_80 : decode cX9_first 80 = .ok (.ireturn, 1) := by decide +kernel
theorem dX9_first_81 : decode cX9_first 81 = .ok (.iinc 8 1, 3) := by decide +kernel
theorem dX9_first_84 : decode cX9_first 84 = .ok (.goto (-26), 3) := by decide +kernel
theorem dX9_first_87 : decode cX9_first 87 = .ok (.bipush (-5), 2) := by decide +kernel
theorem dX9_first_89 : decode cX9_first 89 = .ok (.ireturn, 1) := by decide +kernel
abbrev rX9_first : Room := { frames := 5, cells := 0, slots := 0, locals := 117 }
set_option maxRecDepth 20000 in
theorem gd_X9_first_L58_body {x : Cx} {y : Cy} (hy : Inj y) (h : OkM x y cX9_first RX9 9 (some .int) rX9_first) (a1 : Int32) (a2 : Int32) (a5 : Int32) (a7 : Int32) (kx1 : Mem → Ans) (hx1 : ∀ M0 : Mem, G x y 87 [] [] M0 (kx1 M0)) (kb : Int32 → Mem → Ans) (hb : ∀ (b8 : Int32), ∀ M0 : Mem, G x y 58 [(0, .ref (y.2.1 143)), (1, .int a1), (2, .int a2), (5, .int a5), (7, .int a7), (8, .int b8)] [] M0 (kb b8 M0)) (a8 : Int32) (M : Mem) : G x y 58 [(0, .ref (y.2.1 143)), (1, .int a1), (2, .int a2), (5, .int a5), (7, .int a7), (8, .int a8)] [] M (d_X9_first_L58_body a1 a2 a5 a7 kx1 kb a8 M) := by
  unfold d_X9_first_L58_body
  refine G_iload (pc := 58) h.1 dX9_first_58 5 rfl ?_
  refine G_iload (pc := 60) h.1 dX9_first_60 4 rfl ?_
  refine G_icmp_gt (pc := 62) (tgt := 87) h.1 dX9_first_62 (by decide) ?_ ?_
  · exact G_sub [] rfl (hx1 M)
  · refine G_aload_n (pc := 65) h.1 dX9_first_65 rfl 0 rfl ?_
    refine G_iload_n (pc := 66) h.1 dX9_first_66 rfl 1 rfl ?_
    refine G_iload_n (pc := 67) h.1 dX9_first_67 rfl 2 rfl ?_
    refine G_iload (pc := 68) h.1 dX9_first_68 5 rfl ?_
    refine G_iload (pc := 70) h.1 dX9_first_70 3 rfl ?_
    refine G_callV (pc := 72) (As := [.int a1, .int a2, .int a8, .int a5]) (rest := []) h.1 h.2.2.1 lk_X9_100 lN143 (eM143 _) rfl rfl (c_X9_reason x.1.2.1 y hy a1 a2 a8 a5 M) rfl rfl (Nat.le_of_ble_eq_true rfl) ⟨rfl, rfl, Nat.le_of_ble_eq_true rfl, Nat.le_of_ble_eq_true rfl⟩ dX9_first_72 (fun r2 M1 => ?_)
    refine G_if_ne (pc := 75) (tgt := 81) h.1 dX9_first_75 (by decide) ?_ ?_
    · refine G_iinc (pc := 81) (v := a8 + (1)) h.1 h.2.1 (fun v3 => [(8, .int v3), (0, .ref (y.2.1 143)), (1, .int a1), (2, .int a2), (5, .int a5), (7, .int a7)]) dX9_first_81 (by decide) 5 rfl rfl (fun _ => rfl) (fun v3 => ?_)
      refine G_goto (pc := 84) (tgt := 58) h.1 dX9_first_84 (by decide) ?_
      exact G_sub [1, 2, 3, 4, 5, 0] rfl (hb v3 M1)
    · refine G_iload (pc := 78) h.1 dX9_first_78 5 rfl ?_
      exact G_ret (pc := 80) h rfl dX9_first_80
set_option maxRecDepth 20000 in
theorem gd_X9_first_L58 {x : Cx} {y : Cy} (hy : Inj y) (h : OkM x y cX9_first RX9 9 (some .int) rX9_first) (a1 : Int32) (a2 : Int32) (a5 : Int32) (a7 : Int32) (kx1 : Mem → Ans) (hx1 : ∀ M0 : Mem, G x y 87 [] [] M0 (kx1 M0)) : ∀ (n : Nat) (a8 : Int32) (M : Mem), G x y 58 [(0, .ref (y.2.1 143)), (1, .int a1), (2, .int a2), (5, .int a5), (7, .int a7), (8, .int a8)] [] M (d_X9_first_L58 a1 a2 a5 a7 kx1 n a8 M) := by
  intro n
  induction n with
  | zero => intro a8 M; exact G_none
  | succ n ih => intro a8 M; exact gd_X9_first_L58_body hy h a1 a2 a5 a7 kx1 hx1 _ ih a8 M
set_option maxRecDepth 20000 in
theorem gd_X9_first_B52 {x : Cx} {y : Cy} (hy : Inj y) (h : OkM x y cX9_first RX9 9 (some .int) rX9_first) (a1 : Int32) (a2 : Int32) (a5 : Int32) (a6 : Int32) (s0 : Int32) (M : Mem) : G x y 52 [(0, .ref (y.2.1 143)), (1, .int a1), (2, .int a2), (5, .int a5), (6, .int a6)] [.int s0] M (d_X9_first_B52 a1 a2 a5 a6 s0 M) := by
  unfold d_X9_first_B52
  refine G_istore (pc := 52) h.1 h.2.1 [(7, .int s0), (0, .ref (y.2.1 143)), (1, .int a1), (2, .int a2), (5, .int a5), (6, .int a6)] dX9_first_52 (by decide) rfl ?_
  refine G_iload (pc := 54) h.1 dX9_first_54 5 rfl ?_
  refine G_istore (pc := 56) h.1 h.2.1 [(8, .int a6), (7, .int s0), (0, .ref (y.2.1 143)), (1, .int a1), (2, .int a2), (5, .int a5), (6, .int a6)] dX9_first_56 (by decide) rfl ?_
  refine G_sub [2, 3, 4, 5, 1, 0] rfl (gd_X9_first_L58 hy h a1 a2 a5 s0 _ (fun M4 => ?_) fuelN a6 M)
  refine G_bipush (pc := 87) (v := (-5)) h.1 dX9_first_87 (by decide) ?_
  exact G_ret (pc := 89) h rfl dX9_first_89
set_option maxRecDepth 20000 in
theorem gd_X9_first_B22 {x : Cx} {y : Cy} (hy : Inj y) (h : OkM x y cX9_first RX9 9 (some .int) rX9_first) (a1 : Int32) (a2 : Int32) (a4 : Int32) (a5 : Int32) (s0 : Int32) (M : Mem) : G x y 22 [(0, .ref (y.2.1 143)), (1, .int a1), (2, .int a2), (4, .int a4), (5, .int a5)] [.int s0] M (d_X9_first_B22 a1 a2 a4 a5 s0 M) := by
  unfold d_X9_first_B22
  refine G_istore (pc := 22) h.1 h.2.1 [(6, .int s0), (0, .ref (y.2.1 143)), (1, .int a1), (2, .int a2), (4, .int a4), (5, .int a5)] dX9_first_22 (by decide) rfl ?_
  refine G_iload (pc := 24) h.1 dX9_first_24 4 rfl ?_
  refine G_aload_n (pc := 26) h.1 dX9_first_26 rfl 1 rfl ?_
  refine G_get (pc := 27) (v := .ref (y.2.1 144)) h.1 fl_X9_7 lN143 (eM143 _) rfl dX9_first_27 ?_
  refine G_iconst (pc := 30) (v := (0)) h.1 dX9_first_30 (by decide) ?_
  refine G_iald (pc := 31) h.1 lN144 (eM144 _) dX9_first_31 ?_
  refine G_bipush (pc := 32) (v := (60)) h.1 dX9_first_32 (by decide) ?_
  refine G_iadd (pc := 34) h.1 dX9_first_34 ?_
  refine G_icmp_ge (pc := 35) (tgt := 43) h.1 dX9_first_35 (by decide) ?_ ?_
  · refine G_aload_n (pc := 43) h.1 dX9_first_43 rfl 1 rfl ?_
    refine G_get (pc := 44) (v := .ref (y.2.1 144)) h.1 fl_X9_7 lN143 (eM143 _) rfl dX9_first_44 ?_
    refine G_iconst (pc := 47) (v := (0)) h.1 dX9_first_47 (by decide) ?_
    refine G_iald (pc := 48) h.1 lN144 (eM144 _) dX9_first_48 ?_
    refine G_bipush (pc := 49) (v := (60)) h.1 dX9_first_49 (by decide) ?_
    refine G_iadd (pc := 51) h.1 dX9_first_51 ?_
    exact G_sub [1, 2, 3, 5, 0] rfl (gd_X9_first_B52 hy h a1 a2 a5 s0 ((M 144 ((0 : Int32)).toNatClampNeg) + (60 : Int32)) M)
  · refine G_iload (pc := 38) h.1 dX9_first_38 4 rfl ?_
    refine G_goto (pc := 40) (tgt := 52) h.1 dX9_first_40 (by decide) ?_
    exact G_sub [1, 2, 3, 5, 0] rfl (gd_X9_first_B52 hy h a1 a2 a5 s0 a4 M)
set_option maxRecDepth 20000 in
theorem c_X9_first (l : Launch) (y : Cy) (hy : Inj y) (p1 : Int32) (p2 : Int32) (p3 : Int32) (p4 : Int32) (p5 : Int32) (M : Mem) : CT l y yX9_first cX9_first 9 (some .int) rX9_first [.ref (y.2.1 143), .int p1, .int p2, .int p3, .int p4, .int p5] M (d_X9_first p1 p2 p3 p4 p5 M) := by
  refine CT_of (by decide) hy (Nat.le_of_ble_eq_true rfl) (fun x hxl h => ?_)
  show G x y 0 [(0, .ref (y.2.1 143)), (1, .int p1), (2, .int p2), (3, .int p3), (4, .int p4), (5, .int p5)] [] M _
  unfold d_X9_first
  refine G_iload_n (pc := 0) h.1 dX9_first_0 rfl 3 rfl ?_
  refine G_aload_n (pc := 1) h.1 dX9_first_1 rfl 0 rfl ?_
  refine G_get (pc := 2) (v := .ref (y.2.1 144)) h.1 fl_X9_7 lN143 (eM143 _) rfl dX9_first_2 ?_
  refine G_iconst (pc := 5) (v := (0)) h.1 dX9_first_5 (by decide) ?_
  refine G_iald (pc := 6) h.1 lN144 (eM144 _) dX9_first_6 ?_
  refine G_icmp_le (pc := 7) (tgt := 14) h.1 dX9_first_7 (by decide) ?_ ?_
  · refine G_aload_n (pc := 14) h.1 dX9_first_14 rfl 0 rfl ?_
    refine G_get (pc := 15) (v := .ref (y.2.1 144)) h.1 fl_X9_7 lN143 (eM143 _) rfl dX9_first_15 ?_
    refine G_iconst (pc := 18) (v := (0)) h.1 dX9_first_18 (by decide) ?_
    refine G_iald (pc := 19) h.1 lN144 (eM144 _) dX9_first_19 ?_
    refine G_iconst (pc := 20) (v := (1)) h.1 dX9_first_20 (by decide) ?_
    refine G_iadd (pc := 21) h.1 dX9_first_21 ?_
    exact G_sub [0, 1, 2, 4, 5] rfl (gd_X9_first_B22 hy h p1 p2 p4 p5 ((M 144 ((0 : Int32)).toNatClampNeg) + (1 : Int32)) M)
  · refine G_iload_n (pc := 10) h.1 dX9_first_10 rfl 3 rfl ?_
    refine G_goto (pc := 11) (tgt := 22) h.1 dX9_first_11 (by decide) ?_
    exact G_sub [0, 1, 2, 4, 5] rfl (gd_X9_first_B22 hy h p1 p2 p4 p5 p3 M)
theorem dX9_adds_0 : decode cX9_adds 0 = .ok (.aload_n 0, 1) := by decide +kernel
theorem dX9_adds_1 : decode cX9_adds 1 = .ok (.getfield 7, 3) := by decide +kernel
theorem dX9_adds_4 : decode cX9_adds 4 = .ok (.iconst 5, 1) := by decide +kernel
theorem dX9_adds_5 : decode cX9_adds 5 = .ok (.iaload, 1) := by decide +kernel
theorem dX9_adds_6 : decode cX9_adds 6 = .ok (.istore 4, 2) := by decide +kernel
theorem dX9_adds_8 : decode cX9_adds 8 = .ok (.aload_n 0, 1) := by decide +kernel
theorem dX9_adds_9 : decode cX9_adds 9 = .ok (.iload 4, 2) := by decide +kernel
theorem dX9_adds_11 : decode cX9_adds 11 = .ok (.iconst 0, 1) := by decide +kernel
theorem dX9_adds_12 : decode cX9_adds 12 = .ok (.iload_n 1, 1) := by decide +kernel
theorem dX9_adds_13 : decode cX9_adds 13 = .ok (.invokevirtual 103, 3) := by decide +kernel
theorem dX9_adds_16 : decode cX9_adds 16 = .ok (.aload_n 0, 1) := by decide +kernel
theorem dX9_adds_17 : decode cX9_adds 17 = .ok (.iload 4, 2) := by decide +kernel
theorem dX9_adds_19 : decode cX9_adds 19 = .ok (.iconst 1, 1) := by decide +kernel
theorem dX9_adds_20 : decode cX9_adds 20 = .ok (.iload_n 2, 1) := by decide +kernel
theorem dX9_adds_21 : decode cX9_adds 21 = .ok (.invokevirtual 103, 3) := by decide +kernel
theorem dX9_adds_24 : decode cX9_adds 24 = .ok (.aload_n 0, 1) := by decide +kernel
theorem dX9_adds_25 : decode cX9_adds 25 = .ok (.iload 4, 2) := by decide +kernel
theorem dX9_adds_27 : decode cX9_adds 27 = .ok (.iconst 2, 1) := by decide +kernel
theorem dX9_adds_28 : decode cX9_adds 28 = .ok (.iload_n 3, 1) := by decide +kernel
theorem dX9_adds_29 : decode cX9_adds 29 = .ok (.invokevirtual 103, 3) := by decide +kernel
theorem dX9_adds_32 : decode cX9_adds 32 = .ok (.aload_n 0, 1) := by decide +kernel
theorem dX9_adds_33 : decode cX9_adds 33 = .ok (.iload 4, 2) := by decide +kernel
theorem dX9_adds_35 : decode cX9_adds 35 = .ok (.iconst 3, 1) := by decide +kernel
theorem dX9_adds_36 : decode cX9_adds 36 = .ok (.iconst 0, 1) := by decide +kernel
theorem dX9_adds_37 : decode cX9_adds 37 = .ok (.invokevirtual 103, 3) := by decide +kernel
theorem dX9_adds_40 : decode cX9_adds 40 = .ok (.aload_n 0, 1) := by decide +kernel
theorem dX9_adds_41 : decode cX9_adds 41 = .ok (.iload 4, 2) := by decide +kernel
theorem dX9_adds_43 : decode cX9_adds 43 = .ok (.iconst 4, 1) := by decide +kernel
theorem dX9_adds_44 : decode cX9_adds 44 = .ok (.iconst 0, 1) := by decide +kernel
theorem dX9_adds_45 : decode cX9_adds 45 = .ok (.invokevirtual 103, 3) := by decide +kernel
theorem dX9_adds_48 : decode cX9_adds 48 = .ok (.aload_n 0, 1) := by decide +kernel
theorem dX9_adds_49 : decode cX9_adds 49 = .ok (.getfield 7, 3) := by decide +kernel
theorem dX9_adds_52 : decode cX9_adds 52 = .ok (.iconst 5, 1) := by decide +kernel
theorem dX9_adds_53 : decode cX9_adds 53 = .ok (.dup2, 1) := by decide +kernel
theorem dX9_adds_54 : decode cX9_adds 54 = .ok (.iaload, 1) := by decide +kernel
theorem dX9_adds_55 : decode cX9_adds 55 = .ok (.iconst 1, 1) := by decide +kernel
theorem dX9_adds_56 : decode cX9_adds 56 = .ok (.iadd, 1) := by decide +kernel
theorem dX9_adds_57 : decode cX9_adds 57 = .ok (.iastore, 1) := by decide +kernel
theorem dX9_adds_58 : decode cX9_adds 58 = .ok (.iload 4, 2) := by decide +kernel
theorem dX9_adds_60 : decode cX9_adds 60 = .ok (.ireturn, 1) := by decide +kernel
abbrev rX9_adds : Room := { frames := 1, cells := 0, slots := 0, locals := 23 }
set_option maxRecDepth 20000 in
theorem c_X9_adds (l : Launch) (y : Cy) (hy : Inj y) (p1 : Int32) (p2 : Int32) (p3 : Int32) (M : Mem) : CT l y yX9_adds cX9_adds 5 (some .int) rX9_adds [.ref (y.2.1 143), .int p1, .int p2, .int p3] M (d_X9_adds p1 p2 p3 M) := by
  refine CT_of (by decide) hy (Nat.le_of_ble_eq_true rfl) (fun x hxl h => ?_)
  show G x y 0 [(0, .ref (y.2.1 143)), (1, .int p1), (2, .int p2), (3, .int p3)] [] M _
  unfold d_X9_adds
  refine G_aload_n (pc := 0) h.1 dX9_adds_0 rfl 0 rfl ?_
  refine G_get (pc := 1) (v := .ref (y.2.1 144)) h.1 fl_X9_7 lN143 (eM143 _) rfl dX9_adds_1 ?_
  refine G_iconst (pc := 4) (v := (5)) h.1 dX9_adds_4 (by decide) ?_
  refine G_iald (pc := 5) h.1 lN144 (eM144 _) dX9_adds_5 ?_
  refine G_top (fun v1 => ?_)
  refine G_istore (pc := 6) h.1 h.2.1 [(4, .int v1), (0, .ref (y.2.1 143)), (1, .int p1), (2, .int p2), (3, .int p3)] dX9_adds_6 (by decide) rfl ?_
  refine G_aload_n (pc := 8) h.1 dX9_adds_8 rfl 1 rfl ?_
  refine G_iload (pc := 9) h.1 dX9_adds_9 0 rfl ?_
  refine G_iconst (pc := 11) (v := (0)) h.1 dX9_adds_11 (by decide) ?_
  refine G_iload_n (pc := 12) h.1 dX9_adds_12 rfl 2 rfl ?_
  refine G_callVv (pc := 13) (As := [.int v1, .int (0 : Int32), .int p1]) (rest := []) h.1 h.2.2.1 lk_X9_103 lN143 (eM143 _) rfl rfl (c_X9_puts x.1.2.1 y hy v1 (0 : Int32) p1 M) rfl rfl (Nat.le_of_ble_eq_true rfl) ⟨rfl, rfl, Nat.le_of_ble_eq_true rfl, Nat.le_of_ble_eq_true rfl⟩ dX9_adds_13 (fun r3 M2 => ?_)
  refine G_aload_n (pc := 16) h.1 dX9_adds_16 rfl 1 rfl ?_
  refine G_iload (pc := 17) h.1 dX9_adds_17 0 rfl ?_
  refine G_iconst (pc := 19) (v := (1)) h.1 dX9_adds_19 (by decide) ?_
  refine G_iload_n (pc := 20) h.1 dX9_adds_20 rfl 3 rfl ?_
  refine G_callVv (pc := 21) (As := [.int v1, .int (1 : Int32), .int p2]) (rest := []) h.1 h.2.2.1 lk_X9_103 lN143 (eM143 _) rfl rfl (c_X9_puts x.1.2.1 y hy v1 (1 : Int32) p2 M2) rfl rfl (Nat.le_of_ble_eq_true rfl) ⟨rfl, rfl, Nat.le_of_ble_eq_true rfl, Nat.le_of_ble_eq_true rfl⟩ dX9_adds_21 (fun r5 M4 => ?_)
  refine G_aload_n (pc := 24) h.1 dX9_adds_24 rfl 1 rfl ?_
  refine G_iload (pc := 25) h.1 dX9_adds_25 0 rfl ?_
  refine G_iconst (pc := 27) (v := (2)) h.1 dX9_adds_27 (by decide) ?_
  refine G_iload_n (pc := 28) h.1 dX9_adds_28 rfl 4 rfl ?_
  refine G_callVv (pc := 29) (As := [.int v1, .int (2 : Int32), .int p3]) (rest := []) h.1 h.2.2.1 lk_X9_103 lN143 (eM143 _) rfl rfl (c_X9_puts x.1.2.1 y hy v1 (2 : Int32) p3 M4) rfl rfl (Nat.le_of_ble_eq_true rfl) ⟨rfl, rfl, Nat.le_of_ble_eq_true rfl, Nat.le_of_ble_eq_true rfl⟩ dX9_adds_29 (fun r7 M6 => ?_)
  refine G_aload_n (pc := 32) h.1 dX9_adds_32 rfl 1 rfl ?_
  refine G_iload (pc := 33) h.1 dX9_adds_33 0 rfl ?_
  refine G_iconst (pc := 35) (v := (3)) h.1 dX9_adds_35 (by decide) ?_
  refine G_iconst (pc := 36) (v := (0)) h.1 dX9_adds_36 (by decide) ?_
  refine G_callVv (pc := 37) (As := [.int v1, .int (3 : Int32), .int (0 : Int32)]) (rest := []) h.1 h.2.2.1 lk_X9_103 lN143 (eM143 _) rfl rfl (c_X9_puts x.1.2.1 y hy v1 (3 : Int32) (0 : Int32) M6) rfl rfl (Nat.le_of_ble_eq_true rfl) ⟨rfl, rfl, Nat.le_of_ble_eq_true rfl, Nat.le_of_ble_eq_true rfl⟩ dX9_adds_37 (fun r9 M8 => ?_)
  refine G_aload_n (pc := 40) h.1 dX9_adds_40 rfl 1 rfl ?_
  refine G_iload (pc := 41) h.1 dX9_adds_41 0 rfl ?_
  refine G_iconst (pc := 43) (v := (4)) h.1 dX9_adds_43 (by decide) ?_
  refine G_iconst (pc := 44) (v := (0)) h.1 dX9_adds_44 (by decide) ?_
  refine G_callVv (pc := 45) (As := [.int v1, .int (4 : Int32), .int (0 : Int32)]) (rest := []) h.1 h.2.2.1 lk_X9_103 lN143 (eM143 _) rfl rfl (c_X9_puts x.1.2.1 y hy v1 (4 : Int32) (0 : Int32) M8) rfl rfl (Nat.le_of_ble_eq_true rfl) ⟨rfl, rfl, Nat.le_of_ble_eq_true rfl, Nat.le_of_ble_eq_true rfl⟩ dX9_adds_45 (fun r11 M10 => ?_)
  refine G_aload_n (pc := 48) h.1 dX9_adds_48 rfl 1 rfl ?_
  refine G_get (pc := 49) (v := .ref (y.2.1 144)) h.1 fl_X9_7 lN143 (eM143 _) rfl dX9_adds_49 ?_
  refine G_iconst (pc := 52) (v := (5)) h.1 dX9_adds_52 (by decide) ?_
  refine G_dup2 (pc := 53) h.1 dX9_adds_53 rfl rfl ?_
  refine G_iald (pc := 54) h.1 lN144 (eM144 _) dX9_adds_54 ?_
  refine G_iconst (pc := 55) (v := (1)) h.1 dX9_adds_55 (by decide) ?_
  refine G_iadd (pc := 56) h.1 dX9_adds_56 ?_
  refine G_iast (pc := 57) h.1 lN144 (fun m => eM144 m) dX9_adds_57 (fun M12 => ?_)
  refine G_iload (pc := 58) h.1 dX9_adds_58 0 rfl ?_
  exact G_ret (pc := 60) h rfl dX9_adds_60
theorem dX9_addRecipe_0 : decode cX9_addRecipe 0 = .ok (.iload_n 1, 1) := by decide +kernel
theorem dX9_addRecipe_1 : decode cX9_addRecipe 1 = .ok (.iconst 0, 1) := by decide +kernel
theorem dX9_addRecipe_2 : decode cX9_addRecipe 2 = .ok (.sipush 3000, 3) := by decide +kernel
theorem dX9_addRecipe_5 : decode cX9_addRecipe 5 = .ok (.invokestatic 52, 3) := by decide +kernel
theorem dX9_addRecipe_8 : decode cX9_addRecipe 8 = .ok (.ifCond .eq 35, 3) := by decide +kernel
theorem dX9_addRecipe_11 : decode cX9_addRecipe 11 = .ok (.iload_n 2, 1) := by decide +kernel
theorem dX9_addRecipe_12 : decode cX9_addRecipe 12 = .ok (.iconst 1, 1) := by decide +kernel
theorem dX9_addRecipe_13 : decode cX9_addRecipe 13 = .ok (.sipush 500, 3) := by decide +kernel
theorem dX9_addRecipe_16 : decode cX9_addRecipe 16 = .ok (.invokestatic 52, 3) := by decide +kernel
theorem dX9_addRecipe_19 : decode cX9_addRecipe 19 = .ok (.ifCond .eq 24, 3) := by decide +kernel
theorem dX9_addRecipe_22 : decode cX9_addRecipe 22 = .ok (.iload_n 3, 1) := by decide +kernel
theorem dX9_addRecipe_23 : decode cX9_addRecipe 23 = .ok (.iconst 1, 1) := by decide +kernel
theorem dX9_addRecipe_24 : decode cX9_addRecipe 24 = .ok (.bipush 20, 2) := by decide +kernel
theorem dX9_addRecipe_26 : decode cX9_addRecipe 26 = .ok (.invokestatic 52, 3) := by decide +kernel
theorem dX9_addRecipe_29 : decode cX9_addRecipe 29 = .ok (.ifCond .eq 14, 3) := by decide +kernel
theorem dX9_addRecipe_32 : decode cX9_addRecipe 32 = .ok (.iload 4, 2) := by decide +kernel
theorem dX9_addRecipe_34 : decode cX9_addRecipe 34 = .ok (.iconst 0, 1) := by decide +kernel
theorem dX9_addRecipe_35 : decode cX9_addRecipe 35 = .ok (.bipush 9, 2) := by decide +kernel
theorem dX9_addRecipe_37 : decode cX9_addRecipe 37 = .ok (.invokestatic 52, 3) := by decide +kernel
theorem dX9_addRecipe_40 : decode cX9_addRecipe 40 = .ok (.ifCond .ne 6, 3) := by decide +kernel
theorem dX9_addRecipe_43 : decode cX9_addRecipe 43 = .ok (.bipush (-2), 2) := by decide +kernel
theorem dX9_addRecipe_45 : decode cX9_addRecipe 45 = .ok (.ireturn, 1) := by decide +kernel
theorem dX9_addRecipe_46 : decode cX9_addRecipe 46 = .ok (.aload_n 0, 1) := by decide +kernel
theorem dX9_addRecipe_47 : decode cX9_addRecipe 47 = .ok (.getfield 7, 3) := by decide +kernel
theorem dX9_addRecipe_50 : decode cX9_addRecipe 50 = .ok (.iconst 4, 1) := by decide +kernel
theorem dX9_addRecipe_51 : decode cX9_addRecipe 51 = .ok (.iaload, 1) := by decide +kernel
theorem dX9_addRecipe_52 : decode cX9_addRecipe 52 = .ok (.istore 5, 2) := by decide +kernel
theorem dX9_addRecipe_54 : decode cX9_addRecipe 54 = .ok (.iload 5, 2) := by decide +kernel
theorem dX9_addRecipe_56 : decode cX9_addRecipe 56 = .ok (.bipush 8, 2) := by decide +kernel
theorem dX9_addRecipe_58 : decode cX9_addRecipe 58 = .ok (.if_icmp .ne 6, 3) := by decide +kernel
theorem dX9_addRecipe_61 : decode cX9_addRecipe 61 = .ok (.bipush (-3), 2) := by decide +kernel
theorem dX9_addRecipe_63 : decode cX9_addRecipe 63 = .ok (.ireturn, 1) := by decide +kernel
theorem dX9_addRecipe_64 : decode cX9_addRecipe 64 = .ok (.aload_n 0, 1) := by decide +kernel
theorem dX9_addRecipe_65 : decode cX9_addRecipe 65 = .ok (.invokevirtual 107, 3) := by decide +kernel
theorem dX9_addRecipe_68 : decode cX9_addRecipe 68 = .ok (.bipush 10, 2) := by decide +kernel
theorem dX9_addRecipe_70 : decode cX9_addRecipe 70 = .ok (.iconst 4, 1) := by decide +kernel
theorem dX9_addRecipe_71 : decode cX9_addRecipe 71 = .ok (.iload 5, 2) := by decide +kernel
theorem dX9_addRecipe_73 : decode cX9_addRecipe 73 = .ok (.imul, 1) := by decide +kernel
theorem dX9_addRecipe_74 : decode cX9_addRecipe 74 = .ok (.iadd, 1) := by decide +kernel
theorem dX9_addRecipe_75 : decode cX9_addRecipe 75 = .ok (.istore 6, 2) := by decide +kernel
theorem dX9_addRecipe_77 : decode cX9_addRecipe 77 = .ok (.aload_n 0, 1) := by decide +kernel
theorem dX9_addRecipe_78 : decode cX9_addRecipe 78 = .ok (.getfield 7, 3) := by decide +kernel
theorem dX9_addRecipe_81 : decode cX9_addRecipe 81 = .ok (.iload 6, 2) := by decide +kernel
theorem dX9_addRecipe_83 : decode cX9_addRecipe 83 = .ok (.iload_n 1, 1) := by decide +kernel
theorem dX9_addRecipe_84 : decode cX9_addRecipe 84 = .ok (.iastore, 1) := by decide +kernel
theorem dX9_addRecipe_85 : decode cX9_addRecipe 85 = .ok (.aload_n 0, 1) := by decide +kernel
theorem dX9_addRecipe_86 : decode cX9_addRecipe 86 = .ok (.getfield 7, 3) := by decide +kernel
theorem dX9_addRecipe_89 : decode cX9_addRecipe 89 = .ok (.iload 6, 2) := by decide +kernel
theorem dX9_addRecipe_91 : decode cX9_addRecipe 91 = .ok (.iconst 1, 1) := by decide +kernel
theorem dX9_addRecipe_92 : decode cX9_addRecipe 92 = .ok (.iadd, 1) := by decide +kernel
theorem dX9_addRecipe_93 : decode cX9_addRecipe 93 = .ok (.iload_n 2, 1) := by decide +kernel
theorem dX9_addRecipe_94 : decode cX9_addRecipe 94 = .ok (.iastore, 1) := by decide +kernel
theorem dX9_addRecipe_95 : decode cX9_addRecipe 95 = .ok (.aload_n 0, 1) := by decide +kernel
theorem dX9_addRecipe_96 : decode cX9_addRecipe 96 = .ok (.getfield 7, 3) := by decide +kernel
theorem dX9_addRecipe_99 : decode cX9_addRecipe 99 = .ok (.iload 6, 2) := by decide +kernel
theorem dX9_addRecipe_101 : decode cX9_addRecipe 101 = .ok (.iconst 2, 1) := by decide +kernel
theorem dX9_addRecipe_102 : decode cX9_addRecipe 102 = .ok (.iadd, 1) := by decide +kernel
theorem dX9_addRecipe_103 : decode cX9_addRecipe 103 = .ok (.iload_n 3, 1) := by decide +kernel
theorem dX9_addRecipe_104 : decode cX9_addRecipe 104 = .ok (.iastore, 1) := by decide +kernel
theorem dX9_addRecipe_105 : decode cX9_addRecipe 105 = .ok (.aload_n 0, 1) := by decide +kernel
theorem dX9_addRecipe_106 : decode cX9_addRecipe 106 = .ok (.getfield 7, 3) := by decide +kernel
theorem dX9_addRecipe_109 : decode cX9_addRecipe 109 = .ok (.iload 6, 2) := by decide +kernel
theorem dX9_addRecipe_111 : decode cX9_addRecipe 111 = .ok (.iconst 3, 1) := by decide +kernel
theorem dX9_addRecipe_112 : decode cX9_addRecipe 112 = .ok (.iadd, 1) := by decide +kernel
theorem dX9_addRecipe_113 : decode cX9_addRecipe 113 = .ok (.iload 4, 2) := by decide +kernel
theorem dX9_addRecipe_115 : decode cX9_addRecipe 115 = .ok (.iastore, 1) := by decide +kernel
theorem dX9_addRecipe_116 : decode cX9_addRecipe 116 = .ok (.aload_n 0, 1) := by decide +kernel
theorem dX9_addRecipe_117 : decode cX9_addRecipe 117 = .ok (.getfield 7, 3) := by decide +kernel
theorem dX9_addRecipe_120 : decode cX9_addRecipe 120 = .ok (.iconst 4, 1) := by decide +kernel
theorem dX9_addRecipe_121 : decode cX9_addRecipe 121 = .ok (.dup2, 1) := by decide +kernel
theorem dX9_addRecipe_122 : decode cX9_addRecipe 122 = .ok (.iaload, 1) := by decide +kernel
theorem dX9_addRecipe_123 : decode cX9_addRecipe 123 = .ok (.iconst 1, 1) := by decide +kernel
theorem dX9_addRecipe_124 : decode cX9_addRecipe 124 = .ok (.iadd, 1) := by decide +kernel
theorem dX9_addRecipe_125 : decode cX9_addRecipe 125 = .ok (.iastore, 1) := by decide +kernel
theorem dX9_addRecipe_126 : decode cX9_addRecipe 126 = .ok (.iload 5, 2) := by decide +kernel
theorem dX9_addRecipe_128 : decode cX9_addRecipe 128 = .ok (.ireturn, 1) := by decide +kernel
abbrev rX9_addRecipe : Room := { frames := 1, cells := 0, slots := 0, locals := 22 }
set_option maxRecDepth 20000 in
theorem c_X9_addRecipe (l : Launch) (y : Cy) (hy : Inj y) (p1 : Int32) (p2 : Int32) (p3 : Int32) (p4 : Int32) (M : Mem) : CT l y yX9_addRecipe cX9_addRecipe 7 (some .int) rX9_addRecipe [.ref (y.2.1 143), .int p1, .int p2, .int p3, .int p4] M (d_X9_addRecipe p1 p2 p3 p4 M) := by
  refine CT_of (by decide) hy (Nat.le_of_ble_eq_true rfl) (fun x hxl h => ?_)
  show G x y 0 [(0, .ref (y.2.1 143)), (1, .int p1), (2, .int p2), (3, .int p3), (4, .int p4)] [] M _
  unfold d_X9_addRecipe
  refine G_iload_n (pc := 0) h.1 dX9_addRecipe_0 rfl 1 rfl ?_
  refine G_iconst (pc := 1) (v := (0)) h.1 dX9_addRecipe_1 (by decide) ?_
  refine G_sipush (pc := 2) (v := (3000)) h.1 dX9_addRecipe_2 (by decide) ?_
  refine G_callS (pc := 5) (As := [.int p1, .int (0 : Int32), .int (3000 : Int32)]) (rest := []) h.1 h.2.2.1 lk_X9_52 (c_X9_in x.1.2.1 y hy p1 (0 : Int32) (3000 : Int32) M) rfl rfl (Nat.le_of_ble_eq_true rfl) ⟨rfl, rfl, Nat.le_of_ble_eq_true rfl, Nat.le_of_ble_eq_true rfl⟩ dX9_addRecipe_5 (fun r2 M1 => ?_)
  refine G_if_eq (pc := 8) (tgt := 43) h.1 dX9_addRecipe_8 (by decide) ?_ ?_
  · refine G_bipush (pc := 43) (v := (-2)) h.1 dX9_addRecipe_43 (by decide) ?_
    exact G_ret (pc := 45) h rfl dX9_addRecipe_45
  · refine G_iload_n (pc := 11) h.1 dX9_addRecipe_11 rfl 2 rfl ?_
    refine G_iconst (pc := 12) (v := (1)) h.1 dX9_addRecipe_12 (by decide) ?_
    refine G_sipush (pc := 13) (v := (500)) h.1 dX9_addRecipe_13 (by decide) ?_
    refine G_callS (pc := 16) (As := [.int p2, .int (1 : Int32), .int (500 : Int32)]) (rest := []) h.1 h.2.2.1 lk_X9_52 (c_X9_in x.1.2.1 y hy p2 (1 : Int32) (500 : Int32) M1) rfl rfl (Nat.le_of_ble_eq_true rfl) ⟨rfl, rfl, Nat.le_of_ble_eq_true rfl, Nat.le_of_ble_eq_true rfl⟩ dX9_addRecipe_16 (fun r4 M3 => ?_)
    refine G_if_eq (pc := 19) (tgt := 43) h.1 dX9_addRecipe_19 (by decide) ?_ ?_
    · refine G_bipush (pc := 43) (v := (-2)) h.1 dX9_addRecipe_43 (by decide) ?_
      exact G_ret (pc := 45) h rfl dX9_addRecipe_45
    · refine G_iload_n (pc := 22) h.1 dX9_addRecipe_22 rfl 3 rfl ?_
      refine G_iconst (pc := 23) (v := (1)) h.1 dX9_addRecipe_23 (by decide) ?_
      refine G_bipush (pc := 24) (v := (20)) h.1 dX9_addRecipe_24 (by decide) ?_
      refine G_callS (pc := 26) (As := [.int p3, .int (1 : Int32), .int (20 : Int32)]) (rest := []) h.1 h.2.2.1 lk_X9_52 (c_X9_in x.1.2.1 y hy p3 (1 : Int32) (20 : Int32) M3) rfl rfl (Nat.le_of_ble_eq_true rfl) ⟨rfl, rfl, Nat.le_of_ble_eq_true rfl, Nat.le_of_ble_eq_true rfl⟩ dX9_addRecipe_26 (fun r6 M5 => ?_)
      refine G_if_eq (pc := 29) (tgt := 43) h.1 dX9_addRecipe_29 (by decide) ?_ ?_
      · refine G_bipush (pc := 43) (v := (-2)) h.1 dX9_addRecipe_43 (by decide) ?_
        exact G_ret (pc := 45) h rfl dX9_addRecipe_45
      · refine G_iload (pc := 32) h.1 dX9_addRecipe_32 4 rfl ?_
        refine G_iconst (pc := 34) (v := (0)) h.1 dX9_addRecipe_34 (by decide) ?_
        refine G_bipush (pc := 35) (v := (9)) h.1 dX9_addRecipe_35 (by decide) ?_
        refine G_callS (pc := 37) (As := [.int p4, .int (0 : Int32), .int (9 : Int32)]) (rest := []) h.1 h.2.2.1 lk_X9_52 (c_X9_in x.1.2.1 y hy p4 (0 : Int32) (9 : Int32) M5) rfl rfl (Nat.le_of_ble_eq_true rfl) ⟨rfl, rfl, Nat.le_of_ble_eq_true rfl, Nat.le_of_ble_eq_true rfl⟩ dX9_addRecipe_37 (fun r8 M7 => ?_)
        refine G_if_ne (pc := 40) (tgt := 46) h.1 dX9_addRecipe_40 (by decide) ?_ ?_
        · refine G_aload_n (pc := 46) h.1 dX9_addRecipe_46 rfl 0 rfl ?_
          refine G_get (pc := 47) (v := .ref (y.2.1 144)) h.1 fl_X9_7 lN143 (eM143 _) rfl dX9_addRecipe_47 ?_
          refine G_iconst (pc := 50) (v := (4)) h.1 dX9_addRecipe_50 (by decide) ?_
          refine G_iald (pc := 51) h.1 lN144 (eM144 _) dX9_addRecipe_51 ?_
          refine G_top (fun v9 => ?_)
          refine G_istore (pc := 52) h.1 h.2.1 [(5, .int v9), (0, .ref (y.2.1 143)), (1, .int p1), (2, .int p2), (3, .int p3), (4, .int p4)] dX9_addRecipe_52 (by decide) rfl ?_
          refine G_iload (pc := 54) h.1 dX9_addRecipe_54 0 rfl ?_
          refine G_bipush (pc := 56) (v := (8)) h.1 dX9_addRecipe_56 (by decide) ?_
          refine G_icmp_ne (pc := 58) (tgt := 64) h.1 dX9_addRecipe_58 (by decide) ?_ ?_
          · refine G_aload_n (pc := 64) h.1 dX9_addRecipe_64 rfl 1 rfl ?_
            refine G_callVv (pc := 65) (As := []) (rest := []) h.1 h.2.2.1 lk_X9_107 lN143 (eM143 _) rfl rfl (c_X9_record x.1.2.1 y hy M7) rfl rfl (Nat.le_of_ble_eq_true rfl) ⟨rfl, rfl, Nat.le_of_ble_eq_true rfl, Nat.le_of_ble_eq_true rfl⟩ dX9_addRecipe_65 (fun r11 M10 => ?_)
            refine G_bipush (pc := 68) (v := (10)) h.1 dX9_addRecipe_68 (by decide) ?_
            refine G_iconst (pc := 70) (v := (4)) h.1 dX9_addRecipe_70 (by decide) ?_
            refine G_iload (pc := 71) h.1 dX9_addRecipe_71 0 rfl ?_
            refine G_imul (pc := 73) h.1 dX9_addRecipe_73 ?_
            refine G_iadd (pc := 74) h.1 dX9_addRecipe_74 ?_
            refine G_top (fun v12 => ?_)
            refine G_istore (pc := 75) h.1 h.2.1 [(6, .int v12), (5, .int v9), (0, .ref (y.2.1 143)), (1, .int p1), (2, .int p2), (3, .int p3), (4, .int p4)] dX9_addRecipe_75 (by decide) rfl ?_
            refine G_aload_n (pc := 77) h.1 dX9_addRecipe_77 rfl 2 rfl ?_
            refine G_get (pc := 78) (v := .ref (y.2.1 144)) h.1 fl_X9_7 lN143 (eM143 _) rfl dX9_addRecipe_78 ?_
            refine G_iload (pc := 81) h.1 dX9_addRecipe_81 0 rfl ?_
            refine G_iload_n (pc := 83) h.1 dX9_addRecipe_83 rfl 3 rfl ?_
            refine G_iast (pc := 84) h.1 lN144 (fun m => eM144 m) dX9_addRecipe_84 (fun M13 => ?_)
            refine G_aload_n (pc := 85) h.1 dX9_addRecipe_85 rfl 2 rfl ?_
            refine G_get (pc := 86) (v := .ref (y.2.1 144)) h.1 fl_X9_7 lN143 (eM143 _) rfl dX9_addRecipe_86 ?_
            refine G_iload (pc := 89) h.1 dX9_addRecipe_89 0 rfl ?_
            refine G_iconst (pc := 91) (v := (1)) h.1 dX9_addRecipe_91 (by decide) ?_
            refine G_iadd (pc := 92) h.1 dX9_addRecipe_92 ?_
            refine G_iload_n (pc := 93) h.1 dX9_addRecipe_93 rfl 4 rfl ?_
            refine G_iast (pc := 94) h.1 lN144 (fun m => eM144 m) dX9_addRecipe_94 (fun M14 => ?_)
            refine G_aload_n (pc := 95) h.1 dX9_addRecipe_95 rfl 2 rfl ?_
            refine G_get (pc := 96) (v := .ref (y.2.1 144)) h.1 fl_X9_7 lN143 (eM143 _) rfl dX9_addRecipe_96 ?_
            refine G_iload (pc := 99) h.1 dX9_addRecipe_99 0 rfl ?_
            refine G_iconst (pc := 101) (v := (2)) h.1 dX9_addRecipe_101 (by decide) ?_
            refine G_iadd (pc := 102) h.1 dX9_addRecipe_102 ?_
            refine G_iload_n (pc := 103) h.1 dX9_addRecipe_103 rfl 5 rfl ?_
            refine G_iast (pc := 104) h.1 lN144 (fun m => eM144 m) dX9_addRecipe_104 (fun M15 => ?_)
            refine G_aload_n (pc := 105) h.1 dX9_addRecipe_105 rfl 2 rfl ?_
            refine G_get (pc := 106) (v := .ref (y.2.1 144)) h.1 fl_X9_7 lN143 (eM143 _) rfl dX9_addRecipe_106 ?_
            refine G_iload (pc := 109) h.1 dX9_addRecipe_109 0 rfl ?_
            refine G_iconst (pc := 111) (v := (3)) h.1 dX9_addRecipe_111 (by decide) ?_
            refine G_iadd (pc := 112) h.1 dX9_addRecipe_112 ?_
            refine G_iload (pc := 113) h.1 dX9_addRecipe_113 6 rfl ?_
            refine G_iast (pc := 115) h.1 lN144 (fun m => eM144 m) dX9_addRecipe_115 (fun M16 => ?_)
            refine G_aload_n (pc := 116) h.1 dX9_addRecipe_116 rfl 2 rfl ?_
            refine G_get (pc := 117) (v := .ref (y.2.1 144)) h.1 fl_X9_7 lN143 (eM143 _) rfl dX9_addRecipe_117 ?_
            refine G_iconst (pc := 120) (v := (4)) h.1 dX9_addRecipe_120 (by decide) ?_
            refine G_dup2 (pc := 121) h.1 dX9_addRecipe_121 rfl rfl ?_
            refine G_iald (pc := 122) h.1 lN144 (eM144 _) dX9_addRecipe_122 ?_
            refine G_iconst (pc := 123) (v := (1)) h.1 dX9_addRecipe_123 (by decide) ?_
            refine G_iadd (pc := 124) h.1 dX9_addRecipe_124 ?_
            refine G_iast (pc := 125) h.1 lN144 (fun m => eM144 m) dX9_addRecipe_125 (fun M17 => ?_)
            refine G_iload (pc := 126) h.1 dX9_addRecipe_126 1 rfl ?_
            exact G_ret (pc := 128) h rfl dX9_addRecipe_128
          · refine G_bipush (pc := 61) (v := (-3)) h.1 dX9_addRecipe_61 (by decide) ?_
            exact G_ret (pc := 63) h rfl dX9_addRecipe_63
        · refine G_bipush (pc := 43) (v := (-2)) h.1 dX9_addRecipe_43 (by decide) ?_
          exact G_ret (pc := 45) h rfl dX9_addRecipe_45
