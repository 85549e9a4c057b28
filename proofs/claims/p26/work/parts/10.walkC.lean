theorem dX0_has_0 : decode cX0_has 0 = .ok (.iload_n 1, 1) := by decide +kernel
theorem dX0_has_1 : decode cX0_has 1 = .ok (.ifCond .lt 15, 3) := by decide +kernel
theorem dX0_has_4 : decode cX0_has 4 = .ok (.iload_n 1, 1) := by decide +kernel
theorem dX0_has_5 : decode cX0_has 5 = .ok (.aload_n 0, 1) := by decide +kernel
theorem dX0_has_6 : decode cX0_has 6 = .ok (.getfield 27, 3) := by decide +kernel
theorem dX0_has_9 : decode cX0_has 9 = .ok (.if_icmp .ge 7, 3) := by decide +kernel
theorem dX0_has_12 : decode cX0_has 12 = .ok (.iconst 1, 1) := by decide +kernel
theorem dX0_has_13 : decode cX0_has 13 = .ok (.goto 4, 3) := by decide +kernel
theorem dX0_has_16 : decode cX0_has 16 = .ok (.iconst 0, 1) := by decide +kernel
theorem dX0_has_17 : decode cX0_has 17 = .ok (.ireturn, 1) := by decide +kernel
abbrev rX0_has : Room := { frames := 0, cells := 0, slots := 0, locals := 0 }
set_option maxRecDepth 20000 in
theorem c_X0_has (l : Launch) (y : Cy) (hy : Inj y) (q0 : Nat) (hq0 : q0 < 7) (p1 : Int32) (M : Mem) : CT l y yX0_has cX0_has 2 (some .boolean) rX0_has [.ref (y.2.1 (sI q0 6)), .int p1] M (d_X0_has q0 p1 M) := by
  refine CT_of (by decide) hy (Nat.le_of_ble_eq_true rfl) (fun x hxl h => ?_)
  show G x y 0 [(0, .ref (y.2.1 (sI q0 6))), (1, .int p1)] [] M _
  unfold d_X0_has
  refine G_iload_n (pc := 0) h.1 dX0_has_0 rfl 1 rfl ?_
  refine G_if_lt (pc := 1) (tgt := 16) h.1 dX0_has_1 (by decide) ?_ ?_
  · refine G_iconst (pc := 16) (v := (0)) h.1 dX0_has_16 (by decide) ?_
    exact G_ret (pc := 17) h rfl dX0_has_17
  · refine G_iload_n (pc := 4) h.1 dX0_has_4 rfl 1 rfl ?_
    refine G_aload_n (pc := 5) h.1 dX0_has_5 rfl 0 rfl ?_
    refine G_get (pc := 6) (v := .int (M (sI q0 6) 0)) h.1 fl_X0_27 (ids_s hq0 6 (by decide)) (eS6 hq0 _) rfl dX0_has_6 ?_
    refine G_icmp_ge (pc := 9) (tgt := 16) h.1 dX0_has_9 (by decide) ?_ ?_
    · refine G_iconst (pc := 16) (v := (0)) h.1 dX0_has_16 (by decide) ?_
      exact G_ret (pc := 17) h rfl dX0_has_17
    · refine G_iconst (pc := 12) (v := (1)) h.1 dX0_has_12 (by decide) ?_
      refine G_goto (pc := 13) (tgt := 17) h.1 dX0_has_13 (by decide) ?_
      exact G_ret (pc := 17) h rfl dX0_has_17
theorem dX0_append_0 : decode cX0_append 0 = .ok (.aload_n 0, 1) := by decide +kernel
theorem dX0_append_1 : decode cX0_append 1 = .ok (.getfield 27, 3) := by decide +kernel
theorem dX0_append_4 : decode cX0_append 4 = .ok (.bipush 60, 2) := by decide +kernel
theorem dX0_append_6 : decode cX0_append 6 = .ok (.if_icmp .lt 6, 3) := by decide +kernel
theorem dX0_append_9 : decode cX0_append 9 = .ok (.bipush (-3), 2) := by decide +kernel
theorem dX0_append_11 : decode cX0_append 11 = .ok (.ireturn, 1) := by decide +kernel
theorem dX0_append_12 : decode cX0_append 12 = .ok (.aload_n 0, 1) := by decide +kernel
theorem dX0_append_13 : decode cX0_append 13 = .ok (.getfield 9, 3) := by decide +kernel
theorem dX0_append_16 : decode cX0_append 16 = .ok (.aload_n 0, 1) := by decide +kernel
theorem dX0_append_17 : decode cX0_append 17 = .ok (.getfield 27, 3) := by decide +kernel
theorem dX0_append_20 : decode cX0_append 20 = .ok (.iload_n 1, 1) := by decide +kernel
theorem dX0_append_21 : decode cX0_append 21 = .ok (.iastore, 1) := by decide +kernel
theorem dX0_append_22 : decode cX0_append 22 = .ok (.aload_n 0, 1) := by decide +kernel
theorem dX0_append_23 : decode cX0_append 23 = .ok (.getfield 15, 3) := by decide +kernel
theorem dX0_append_26 : decode cX0_append 26 = .ok (.aload_n 0, 1) := by decide +kernel
theorem dX0_append_27 : decode cX0_append 27 = .ok (.getfield 27, 3) := by decide +kernel
theorem dX0_append_30 : decode cX0_append 30 = .ok (.iload_n 2, 1) := by decide +kernel
theorem dX0_append_31 : decode cX0_append 31 = .ok (.iastore, 1) := by decide +kernel
theorem dX0_append_32 : decode cX0_append 32 = .ok (.aload_n 0, 1) := by decide +kernel
theorem dX0_append_33 : decode cX0_append 33 = .ok (.getfield 18, 3) := by decide +kernel
theorem dX0_append_36 : decode cX0_append 36 = .ok (.aload_n 0, 1) := by decide +kernel
theorem dX0_append_37 : decode cX0_append 37 = .ok (.getfield 27, 3) := by decide +kernel
theorem dX0_append_40 : decode cX0_append 40 = .ok (.iload_n 3, 1) := by decide +kernel
theorem dX0_append_41 : decode cX0_append 41 = .ok (.iastore, 1) := by decide +kernel
theorem dX0_append_42 : decode cX0_append 42 = .ok (.aload_n 0, 1) := by decide +kernel
theorem dX0_append_43 : decode cX0_append 43 = .ok (.getfield 21, 3) := by decide +kernel
theorem dX0_append_46 : decode cX0_append 46 = .ok (.aload_n 0, 1) := by decide +kernel
theorem dX0_append_47 : decode cX0_append 47 = .ok (.getfield 27, 3) := by decide +kernel
theorem dX0_append_50 : decode cX0_append 50 = .ok (.iconst 0, 1) := by decide +kernel
theorem dX0_append_51 : decode cX0_append 51 = .ok (.iastore, 1) := by decide +kernel
theorem dX0_append_52 : decode cX0_append 52 = .ok (.aload_n 0, 1) := by decide +kernel
theorem dX0_append_53 : decode cX0_append 53 = .ok (.getfield 24, 3) := by decide +kernel
theorem dX0_append_56 : decode cX0_append 56 = .ok (.aload_n 0, 1) := by decide +kernel
theorem dX0_append_57 : decode cX0_append 57 = .ok (.getfield 27, 3) := by decide +kernel
theorem dX0_append_60 : decode cX0_append 60 = .ok (.iconst 0, 1) := by decide +kernel
theorem dX0_append_61 : decode cX0_append 61 = .ok (.iastore, 1) := by decide +kernel
theorem dX0_append_62 : decode cX0_append 62 = .ok (.aload_n 0, 1) := by decide +kernel
theorem dX0_append_63 : decode cX0_append 63 = .ok (.dup, 1) := by decide +kernel
theorem dX0_append_64 : decode cX0_append 64 = .ok (.getfield 27, 3) := by decide +kernel
theorem dX0_append_67 : decode cX0_append 67 = .ok (.iconst 1, 1) := by decide +kernel
theorem dX0_append_68 : decode cX0_append 68 = .ok (.iadd, 1) := by decide +kernel
theorem dX0_append_69 : decode cX0_append 69 = .ok (.putfield 27, 3) := by decide +kernel
theorem dX0_append_72 : decode cX0_append 72 = .ok (.aload_n 0, 1) := by decide +kernel
theorem dX0_append_73 : decode cX0_append 73 = .ok (.getfield 27, 3) := by decide +kernel
theorem dX0_append_76 : decode cX0_append 76 = .ok (.iconst 1, 1) := by decide +kernel
theorem dX0_append_77 : decode cX0_append 77 = .ok (.isub, 1) := by decide +kernel
theorem dX0_append_78 : decode cX0_append 78 = .ok (.ireturn, 1) := by decide +kernel
abbrev rX0_append : Room := { frames := 0, cells := 0, slots := 0, locals := 0 }
set_option maxRecDepth 20000 in
theorem c_X0_append (l : Launch) (y : Cy) (hy : Inj y) (q0 : Nat) (hq0 : q0 < 7) (p1 : Int32) (p2 : Int32) (p3 : Int32) (M : Mem) : CT l y yX0_append cX0_append 4 (some .int) rX0_append [.ref (y.2.1 (sI q0 6)), .int p1, .int p2, .int p3] M (d_X0_append q0 p1 p2 p3 M) := by
  refine CT_of (by decide) hy (Nat.le_of_ble_eq_true rfl) (fun x hxl h => ?_)
  show G x y 0 [(0, .ref (y.2.1 (sI q0 6))), (1, .int p1), (2, .int p2), (3, .int p3)] [] M _
  unfold d_X0_append
  refine G_aload_n (pc := 0) h.1 dX0_append_0 rfl 0 rfl ?_
  refine G_get (pc := 1) (v := .int (M (sI q0 6) 0)) h.1 fl_X0_27 (ids_s hq0 6 (by decide)) (eS6 hq0 _) rfl dX0_append_1 ?_
  refine G_bipush (pc := 4) (v := (60)) h.1 dX0_append_4 (by decide) ?_
  refine G_icmp_lt (pc := 6) (tgt := 12) h.1 dX0_append_6 (by decide) ?_ ?_
  · refine G_aload_n (pc := 12) h.1 dX0_append_12 rfl 0 rfl ?_
    refine G_get (pc := 13) (v := .ref (y.2.1 (sI q0 7))) h.1 fl_X0_9 (ids_s hq0 6 (by decide)) (eS6 hq0 _) rfl dX0_append_13 ?_
    refine G_aload_n (pc := 16) h.1 dX0_append_16 rfl 0 rfl ?_
    refine G_get (pc := 17) (v := .int (M (sI q0 6) 0)) h.1 fl_X0_27 (ids_s hq0 6 (by decide)) (eS6 hq0 _) rfl dX0_append_17 ?_
    refine G_iload_n (pc := 20) h.1 dX0_append_20 rfl 1 rfl ?_
    refine G_iast (pc := 21) h.1 (ids_s hq0 7 (by decide)) (fun m => eS7 hq0 m) dX0_append_21 (fun M1 => ?_)
    refine G_aload_n (pc := 22) h.1 dX0_append_22 rfl 0 rfl ?_
    refine G_get (pc := 23) (v := .ref (y.2.1 (sI q0 8))) h.1 fl_X0_15 (ids_s hq0 6 (by decide)) (eS6 hq0 _) rfl dX0_append_23 ?_
    refine G_aload_n (pc := 26) h.1 dX0_append_26 rfl 0 rfl ?_
    refine G_get (pc := 27) (v := .int (M1 (sI q0 6) 0)) h.1 fl_X0_27 (ids_s hq0 6 (by decide)) (eS6 hq0 _) rfl dX0_append_27 ?_
    refine G_iload_n (pc := 30) h.1 dX0_append_30 rfl 2 rfl ?_
    refine G_iast (pc := 31) h.1 (ids_s hq0 8 (by decide)) (fun m => eS8 hq0 m) dX0_append_31 (fun M2 => ?_)
    refine G_aload_n (pc := 32) h.1 dX0_append_32 rfl 0 rfl ?_
    refine G_get (pc := 33) (v := .ref (y.2.1 (sI q0 9))) h.1 fl_X0_18 (ids_s hq0 6 (by decide)) (eS6 hq0 _) rfl dX0_append_33 ?_
    refine G_aload_n (pc := 36) h.1 dX0_append_36 rfl 0 rfl ?_
    refine G_get (pc := 37) (v := .int (M2 (sI q0 6) 0)) h.1 fl_X0_27 (ids_s hq0 6 (by decide)) (eS6 hq0 _) rfl dX0_append_37 ?_
    refine G_iload_n (pc := 40) h.1 dX0_append_40 rfl 3 rfl ?_
    refine G_iast (pc := 41) h.1 (ids_s hq0 9 (by decide)) (fun m => eS9 hq0 m) dX0_append_41 (fun M3 => ?_)
    refine G_aload_n (pc := 42) h.1 dX0_append_42 rfl 0 rfl ?_
    refine G_get (pc := 43) (v := .ref (y.2.1 (sI q0 10))) h.1 fl_X0_21 (ids_s hq0 6 (by decide)) (eS6 hq0 _) rfl dX0_append_43 ?_
    refine G_aload_n (pc := 46) h.1 dX0_append_46 rfl 0 rfl ?_
    refine G_get (pc := 47) (v := .int (M3 (sI q0 6) 0)) h.1 fl_X0_27 (ids_s hq0 6 (by decide)) (eS6 hq0 _) rfl dX0_append_47 ?_
    refine G_iconst (pc := 50) (v := (0)) h.1 dX0_append_50 (by decide) ?_
    refine G_iast (pc := 51) h.1 (ids_s hq0 10 (by decide)) (fun m => eS10 hq0 m) dX0_append_51 (fun M4 => ?_)
    refine G_aload_n (pc := 52) h.1 dX0_append_52 rfl 0 rfl ?_
    refine G_get (pc := 53) (v := .ref (y.2.1 (sI q0 11))) h.1 fl_X0_24 (ids_s hq0 6 (by decide)) (eS6 hq0 _) rfl dX0_append_53 ?_
    refine G_aload_n (pc := 56) h.1 dX0_append_56 rfl 0 rfl ?_
    refine G_get (pc := 57) (v := .int (M4 (sI q0 6) 0)) h.1 fl_X0_27 (ids_s hq0 6 (by decide)) (eS6 hq0 _) rfl dX0_append_57 ?_
    refine G_iconst (pc := 60) (v := (0)) h.1 dX0_append_60 (by decide) ?_
    refine G_iast (pc := 61) h.1 (ids_s hq0 11 (by decide)) (fun m => eS11 hq0 m) dX0_append_61 (fun M5 => ?_)
    refine G_aload_n (pc := 62) h.1 dX0_append_62 rfl 0 rfl ?_
    refine G_dup (pc := 63) h.1 dX0_append_63 rfl ?_
    refine G_get (pc := 64) (v := .int (M5 (sI q0 6) 0)) h.1 fl_X0_27 (ids_s hq0 6 (by decide)) (eS6 hq0 _) rfl dX0_append_64 ?_
    refine G_iconst (pc := 67) (v := (1)) h.1 dX0_append_67 (by decide) ?_
    refine G_iadd (pc := 68) h.1 dX0_append_68 ?_
    refine G_put (pc := 69) h.1 fp_X0_27 (ids_s hq0 6 (by decide)) (fun m => eS6 hq0 m) (fun _ => rfl) (fun _ => Nat.le_of_ble_eq_true rfl) rfl rfl dX0_append_69 (fun M6 => ?_)
    refine G_aload_n (pc := 72) h.1 dX0_append_72 rfl 0 rfl ?_
    refine G_get (pc := 73) (v := .int (M6 (sI q0 6) 0)) h.1 fl_X0_27 (ids_s hq0 6 (by decide)) (eS6 hq0 _) rfl dX0_append_73 ?_
    refine G_iconst (pc := 76) (v := (1)) h.1 dX0_append_76 (by decide) ?_
    refine G_isub (pc := 77) h.1 dX0_append_77 ?_
    exact G_ret (pc := 78) h rfl dX0_append_78
  · refine G_bipush (pc := 9) (v := (-3)) h.1 dX0_append_9 (by decide) ?_
    exact G_ret (pc := 11) h rfl dX0_append_11
theorem dX0_stateOf_0 : decode cX0_stateOf 0 = .ok (.aload_n 0, 1) := by decide +kernel
theorem dX0_stateOf_1 : decode cX0_stateOf 1 = .ok (.iload_n 1, 1) := by decide +kernel
theorem dX0_stateOf_2 : decode cX0_stateOf 2 = .ok (.invokevirtual 31, 3) := by decide +kernel
theorem dX0_stateOf_5 : decode cX0_stateOf 5 = .ok (.ifCond .eq 12, 3) := by decide +kernel
theorem dX0_stateOf_8 : decode cX0_stateOf 8 = .ok (.aload_n 0, 1) := by decide +kernel
theorem dX0_stateOf_9 : decode cX0_stateOf 9 = .ok (.getfield 21, 3) := by decide +kernel
theorem dX0_stateOf_12 : decode cX0_stateOf 12 = .ok (.iload_n 1, 1) := by decide +kernel
theorem dX0_stateOf_13 : decode cX0_stateOf 13 = .ok (.iaload, 1) := by decide +kernel
theorem dX0_stateOf_14 : decode cX0_stateOf 14 = .ok (.goto 4, 3) := by decide +kernel
theorem dX0_stateOf_17 : decode cX0_stateOf 17 = .ok (.iconst (-1), 1) := by decide +kernel
theorem dX0_stateOf_18 : decode cX0_stateOf 18 = .ok (.ireturn, 1) := by decide +kernel
abbrev rX0_stateOf : Room := { frames := 1, cells := 0, slots := 0, locals := 21 }
set_option maxRecDepth 20000 in
theorem c_X0_stateOf (l : Launch) (y : Cy) (hy : Inj y) (q0 : Nat) (hq0 : q0 < 7) (p1 : Int32) (M : Mem) : CT l y yX0_stateOf cX0_stateOf 2 (some .int) rX0_stateOf [.ref (y.2.1 (sI q0 6)), .int p1] M (d_X0_stateOf q0 p1 M) := by
  refine CT_of (by decide) hy (Nat.le_of_ble_eq_true rfl) (fun x hxl h => ?_)
  show G x y 0 [(0, .ref (y.2.1 (sI q0 6))), (1, .int p1)] [] M _
  unfold d_X0_stateOf
  refine G_aload_n (pc := 0) h.1 dX0_stateOf_0 rfl 0 rfl ?_
  refine G_iload_n (pc := 1) h.1 dX0_stateOf_1 rfl 1 rfl ?_
  refine G_callV (pc := 2) (As := [.int p1]) (rest := []) h.1 h.2.2.1 lk_X0_31 (ids_s hq0 6 (by decide)) (eS6 hq0 _) rfl rfl (c_X0_has x.1.2.1 y hy q0 hq0 p1 M) rfl rfl (Nat.le_of_ble_eq_true rfl) ⟨rfl, rfl, Nat.le_of_ble_eq_true rfl, Nat.le_of_ble_eq_true rfl⟩ dX0_stateOf_2 (fun r2 M1 => ?_)
  refine G_if_eq (pc := 5) (tgt := 17) h.1 dX0_stateOf_5 (by decide) ?_ ?_
  · refine G_iconst (pc := 17) (v := (-1)) h.1 dX0_stateOf_17 (by decide) ?_
    exact G_ret (pc := 18) h rfl dX0_stateOf_18
  · refine G_aload_n (pc := 8) h.1 dX0_stateOf_8 rfl 0 rfl ?_
    refine G_get (pc := 9) (v := .ref (y.2.1 (sI q0 10))) h.1 fl_X0_21 (ids_s hq0 6 (by decide)) (eS6 hq0 _) rfl dX0_stateOf_9 ?_
    refine G_iload_n (pc := 12) h.1 dX0_stateOf_12 rfl 1 rfl ?_
    refine G_iald (pc := 13) h.1 (ids_s hq0 10 (by decide)) (eS10 hq0 _) dX0_stateOf_13 ?_
    refine G_goto (pc := 14) (tgt := 18) h.1 dX0_stateOf_14 (by decide) ?_
    exact G_ret (pc := 18) h rfl dX0_stateOf_18
theorem dX0_isOpen_0 : decode cX0_isOpen 0 = .ok (.aload_n 0, 1) := by decide +kernel
theorem dX0_isOpen_1 : decode cX0_isOpen 1 = .ok (.iload_n 1, 1) := by decide +kernel
theorem dX0_isOpen_2 : decode cX0_isOpen 2 = .ok (.invokevirtual 31, 3) := by decide +kernel
theorem dX0_isOpen_5 : decode cX0_isOpen 5 = .ok (.ifCond .eq 26, 3) := by decide +kernel
theorem dX0_isOpen_8 : decode cX0_isOpen 8 = .ok (.aload_n 0, 1) := by decide +kernel
theorem dX0_isOpen_9 : decode cX0_isOpen 9 = .ok (.getfield 21, 3) := by decide +kernel
theorem dX0_isOpen_12 : decode cX0_isOpen 12 = .ok (.iload_n 1, 1) := by decide +kernel
theorem dX0_isOpen_13 : decode cX0_isOpen 13 = .ok (.iaload, 1) := by decide +kernel
theorem dX0_isOpen_14 : decode cX0_isOpen 14 = .ok (.ifCond .eq 13, 3) := by decide +kernel
theorem dX0_isOpen_17 : decode cX0_isOpen 17 = .ok (.aload_n 0, 1) := by decide +kernel
theorem dX0_isOpen_18 : decode cX0_isOpen 18 = .ok (.getfield 21, 3) := by decide +kernel
theorem dX0_isOpen_21 : decode cX0_isOpen 21 = .ok (.iload_n 1, 1) := by decide +kernel
theorem dX0_isOpen_22 : decode cX0_isOpen 22 = .ok (.iaload, 1) := by decide +kernel
theorem dX0_isOpen_23 : decode cX0_isOpen 23 = .ok (.iconst 1, 1) := by decide +kernel
theorem dX0_isOpen_24 : decode cX0_isOpen 24 = .ok (.if_icmp .ne 7, 3) := by decide +kernel
theorem dX0_isOpen_27 : decode cX0_isOpen 27 = .ok (.iconst 1, 1) := by decide +kernel
theorem dX0_isOpen_28 : decode cX0_isOpen 28 = .ok (.goto 4, 3) := by decide +kernel
theorem dX0_isOpen_31 : decode cX0_isOpen 31 = .ok (.iconst 0, 1) := by decide +kernel
theorem dX0_isOpen_32 : decode cX0_isOpen 32 = .ok (.ireturn, 1) := by decide +kernel
abbrev rX0_isOpen : Room := { frames := 1, cells := 0, slots := 0, locals := 21 }
set_option maxRecDepth 20000 in
theorem c_X0_isOpen (l : Launch) (y : Cy) (hy : Inj y) (q0 : Nat) (hq0 : q0 < 7) (p1 : Int32) (M : Mem) : CT l y yX0_isOpen cX0_isOpen 2 (some .boolean) rX0_isOpen [.ref (y.2.1 (sI q0 6)), .int p1] M (d_X0_isOpen q0 p1 M) := by
  refine CT_of (by decide) hy (Nat.le_of_ble_eq_true rfl) (fun x hxl h => ?_)
  show G x y 0 [(0, .ref (y.2.1 (sI q0 6))), (1, .int p1)] [] M _
  unfold d_X0_isOpen
  refine G_aload_n (pc := 0) h.1 dX0_isOpen_0 rfl 0 rfl ?_
  refine G_iload_n (pc := 1) h.1 dX0_isOpen_1 rfl 1 rfl ?_
  refine G_callV (pc := 2) (As := [.int p1]) (rest := []) h.1 h.2.2.1 lk_X0_31 (ids_s hq0 6 (by decide)) (eS6 hq0 _) rfl rfl (c_X0_has x.1.2.1 y hy q0 hq0 p1 M) rfl rfl (Nat.le_of_ble_eq_true rfl) ⟨rfl, rfl, Nat.le_of_ble_eq_true rfl, Nat.le_of_ble_eq_true rfl⟩ dX0_isOpen_2 (fun r2 M1 => ?_)
  refine G_if_eq (pc := 5) (tgt := 31) h.1 dX0_isOpen_5 (by decide) ?_ ?_
  · refine G_iconst (pc := 31) (v := (0)) h.1 dX0_isOpen_31 (by decide) ?_
    exact G_ret (pc := 32) h rfl dX0_isOpen_32
  · refine G_aload_n (pc := 8) h.1 dX0_isOpen_8 rfl 0 rfl ?_
    refine G_get (pc := 9) (v := .ref (y.2.1 (sI q0 10))) h.1 fl_X0_21 (ids_s hq0 6 (by decide)) (eS6 hq0 _) rfl dX0_isOpen_9 ?_
    refine G_iload_n (pc := 12) h.1 dX0_isOpen_12 rfl 1 rfl ?_
    refine G_iald (pc := 13) h.1 (ids_s hq0 10 (by decide)) (eS10 hq0 _) dX0_isOpen_13 ?_
    refine G_if_eq (pc := 14) (tgt := 27) h.1 dX0_isOpen_14 (by decide) ?_ ?_
    · refine G_iconst (pc := 27) (v := (1)) h.1 dX0_isOpen_27 (by decide) ?_
      refine G_goto (pc := 28) (tgt := 32) h.1 dX0_isOpen_28 (by decide) ?_
      exact G_ret (pc := 32) h rfl dX0_isOpen_32
    · refine G_aload_n (pc := 17) h.1 dX0_isOpen_17 rfl 0 rfl ?_
      refine G_get (pc := 18) (v := .ref (y.2.1 (sI q0 10))) h.1 fl_X0_21 (ids_s hq0 6 (by decide)) (eS6 hq0 _) rfl dX0_isOpen_18 ?_
      refine G_iload_n (pc := 21) h.1 dX0_isOpen_21 rfl 1 rfl ?_
      refine G_iald (pc := 22) h.1 (ids_s hq0 10 (by decide)) (eS10 hq0 _) dX0_isOpen_22 ?_
      refine G_iconst (pc := 23) (v := (1)) h.1 dX0_isOpen_23 (by decide) ?_
      refine G_icmp_ne (pc := 24) (tgt := 31) h.1 dX0_isOpen_24 (by decide) ?_ ?_
      · refine G_iconst (pc := 31) (v := (0)) h.1 dX0_isOpen_31 (by decide) ?_
        exact G_ret (pc := 32) h rfl dX0_isOpen_32
      · refine G_iconst (pc := 27) (v := (1)) h.1 dX0_isOpen_27 (by decide) ?_
        refine G_goto (pc := 28) (tgt := 32) h.1 dX0_isOpen_28 (by decide) ?_
        exact G_ret (pc := 32) h rfl dX0_isOpen_32
theorem dX0_keepsBusy_0 : decode cX0_keepsBusy 0 = .ok (.aload_n 0, 1) := by decide +kernel
theorem dX0_keepsBusy_1 : decode cX0_keepsBusy 1 = .ok (.iload_n 1, 1) := by decide +kernel
theorem dX0_keepsBusy_2 : decode cX0_keepsBusy 2 = .ok (.invokevirtual 31, 3) := by decide +kernel
theorem dX0_keepsBusy_5 : decode cX0_keepsBusy 5 = .ok (.ifCond .eq 37, 3) := by decide +kernel
theorem dX0_keepsBusy_8 : decode cX0_keepsBusy 8 = .ok (.aload_n 0, 1) := by decide +kernel
theorem dX0_keepsBusy_9 : decode cX0_keepsBusy 9 = .ok (.getfield 9, 3) := by decide +kernel
theorem dX0_keepsBusy_12 : decode cX0_keepsBusy 12 = .ok (.iload_n 1, 1) := by decide +kernel
theorem dX0_keepsBusy_13 : decode cX0_keepsBusy 13 = .ok (.iaload, 1) := by decide +kernel
theorem dX0_keepsBusy_14 : decode cX0_keepsBusy 14 = .ok (.iload_n 2, 1) := by decide +kernel
theorem dX0_keepsBusy_15 : decode cX0_keepsBusy 15 = .ok (.if_icmp .ne 27, 3) := by decide +kernel
theorem dX0_keepsBusy_18 : decode cX0_keepsBusy 18 = .ok (.aload_n 0, 1) := by decide +kernel
theorem dX0_keepsBusy_19 : decode cX0_keepsBusy 19 = .ok (.getfield 21, 3) := by decide +kernel
theorem dX0_keepsBusy_22 : decode cX0_keepsBusy 22 = .ok (.iload_n 1, 1) := by decide +kernel
theorem dX0_keepsBusy_23 : decode cX0_keepsBusy 23 = .ok (.iaload, 1) := by decide +kernel
theorem dX0_keepsBusy_24 : decode cX0_keepsBusy 24 = .ok (.iconst 3, 1) := by decide +kernel
theorem dX0_keepsBusy_25 : decode cX0_keepsBusy 25 = .ok (.if_icmp .eq 17, 3) := by decide +kernel
theorem dX0_keepsBusy_28 : decode cX0_keepsBusy 28 = .ok (.aload_n 0, 1) := by decide +kernel
theorem dX0_keepsBusy_29 : decode cX0_keepsBusy 29 = .ok (.getfield 21, 3) := by decide +kernel
theorem dX0_keepsBusy_32 : decode cX0_keepsBusy 32 = .ok (.iload_n 1, 1) := by decide +kernel
theorem dX0_keepsBusy_33 : decode cX0_keepsBusy 33 = .ok (.iaload, 1) := by decide +kernel
theorem dX0_keepsBusy_34 : decode cX0_keepsBusy 34 = .ok (.iconst 4, 1) := by decide +kernel
theorem dX0_keepsBusy_35 : decode cX0_keepsBusy 35 = .ok (.if_icmp .eq 7, 3) := by decide +kernel
theorem dX0_keepsBusy_38 : decode cX0_keepsBusy 38 = .ok (.iconst 1, 1) := by decide +kernel
theorem dX0_keepsBusy_39 : decode cX0_keepsBusy 39 = .ok (.goto 4, 3) := by decide +kernel
theorem dX0_keepsBusy_42 : decode cX0_keepsBusy 42 = .ok (.iconst 0, 1) := by decide +kernel
theorem dX0_keepsBusy_43 : decode cX0_keepsBusy 43 = .ok (.ireturn, 1) := by decide +kernel
abbrev rX0_keepsBusy : Room := { frames := 1, cells := 0, slots := 0, locals := 21 }
set_option maxRecDepth 20000 in
theorem c_X0_keepsBusy (l : Launch) (y : Cy) (hy : Inj y) (q0 : Nat) (hq0 : q0 < 7) (p1 : Int32) (p2 : Int32) (M : Mem) : CT l y yX0_keepsBusy cX0_keepsBusy 3 (some .boolean) rX0_keepsBusy [.ref (y.2.1 (sI q0 6)), .int p1, .int p2] M (d_X0_keepsBusy q0 p1 p2 M) := by
  refine CT_of (by decide) hy (Nat.le_of_ble_eq_true rfl) (fun x hxl h => ?_)
  show G x y 0 [(0, .ref (y.2.1 (sI q0 6))), (1, .int p1), (2, .int p2)] [] M _
  unfold d_X0_keepsBusy
  refine G_aload_n (pc := 0) h.1 dX0_keepsBusy_0 rfl 0 rfl ?_
  refine G_iload_n (pc := 1) h.1 dX0_keepsBusy_1 rfl 1 rfl ?_
  refine G_callV (pc := 2) (As := [.int p1]) (rest := []) h.1 h.2.2.1 lk_X0_31 (ids_s hq0 6 (by decide)) (eS6 hq0 _) rfl rfl (c_X0_has x.1.2.1 y hy q0 hq0 p1 M) rfl rfl (Nat.le_of_ble_eq_true rfl) ⟨rfl, rfl, Nat.le_of_ble_eq_true rfl, Nat.le_of_ble_eq_true rfl⟩ dX0_keepsBusy_2 (fun r2 M1 => ?_)
  refine G_if_eq (pc := 5) (tgt := 42) h.1 dX0_keepsBusy_5 (by decide) ?_ ?_
  · refine G_iconst (pc := 42) (v := (0)) h.1 dX0_keepsBusy_42 (by decide) ?_
    exact G_ret (pc := 43) h rfl dX0_keepsBusy_43
  · refine G_aload_n (pc := 8) h.1 dX0_keepsBusy_8 rfl 0 rfl ?_
    refine G_get (pc := 9) (v := .ref (y.2.1 (sI q0 7))) h.1 fl_X0_9 (ids_s hq0 6 (by decide)) (eS6 hq0 _) rfl dX0_keepsBusy_9 ?_
    refine G_iload_n (pc := 12) h.1 dX0_keepsBusy_12 rfl 1 rfl ?_
    refine G_iald (pc := 13) h.1 (ids_s hq0 7 (by decide)) (eS7 hq0 _) dX0_keepsBusy_13 ?_
    refine G_iload_n (pc := 14) h.1 dX0_keepsBusy_14 rfl 2 rfl ?_
    refine G_icmp_ne (pc := 15) (tgt := 42) h.1 dX0_keepsBusy_15 (by decide) ?_ ?_
    · refine G_iconst (pc := 42) (v := (0)) h.1 dX0_keepsBusy_42 (by decide) ?_
      exact G_ret (pc := 43) h rfl dX0_keepsBusy_43
    · refine G_aload_n (pc := 18) h.1 dX0_keepsBusy_18 rfl 0 rfl ?_
      refine G_get (pc := 19) (v := .ref (y.2.1 (sI q0 10))) h.1 fl_X0_21 (ids_s hq0 6 (by decide)) (eS6 hq0 _) rfl dX0_keepsBusy_19 ?_
      refine G_iload_n (pc := 22) h.1 dX0_keepsBusy_22 rfl 1 rfl ?_
      refine G_iald (pc := 23) h.1 (ids_s hq0 10 (by decide)) (eS10 hq0 _) dX0_keepsBusy_23 ?_
      refine G_iconst (pc := 24) (v := (3)) h.1 dX0_keepsBusy_24 (by decide) ?_
      refine G_icmp_eq (pc := 25) (tgt := 42) h.1 dX0_keepsBusy_25 (by decide) ?_ ?_
      · refine G_iconst (pc := 42) (v := (0)) h.1 dX0_keepsBusy_42 (by decide) ?_
        exact G_ret (pc := 43) h rfl dX0_keepsBusy_43
      · refine G_aload_n (pc := 28) h.1 dX0_keepsBusy_28 rfl 0 rfl ?_
        refine G_get (pc := 29) (v := .ref (y.2.1 (sI q0 10))) h.1 fl_X0_21 (ids_s hq0 6 (by decide)) (eS6 hq0 _) rfl dX0_keepsBusy_29 ?_
        refine G_iload_n (pc := 32) h.1 dX0_keepsBusy_32 rfl 1 rfl ?_
        refine G_iald (pc := 33) h.1 (ids_s hq0 10 (by decide)) (eS10 hq0 _) dX0_keepsBusy_33 ?_
        refine G_iconst (pc := 34) (v := (4)) h.1 dX0_keepsBusy_34 (by decide) ?_
        refine G_icmp_eq (pc := 35) (tgt := 42) h.1 dX0_keepsBusy_35 (by decide) ?_ ?_
        · refine G_iconst (pc := 42) (v := (0)) h.1 dX0_keepsBusy_42 (by decide) ?_
          exact G_ret (pc := 43) h rfl dX0_keepsBusy_43
        · refine G_iconst (pc := 38) (v := (1)) h.1 dX0_keepsBusy_38 (by decide) ?_
          refine G_goto (pc := 39) (tgt := 43) h.1 dX0_keepsBusy_39 (by decide) ?_
          exact G_ret (pc := 43) h rfl dX0_keepsBusy_43
theorem dX0_inState_0 : decode cX0_inState 0 = .ok (.iconst 0, 1) := by decide +kernel
theorem dX0_inState_1 : decode cX0_inState 1 = .ok (.istore_n 2, 1) := by decide +kernel
theorem dX0_inState_2 : decode cX0_inState 2 = .ok (.iconst 0, 1) := by decide +kernel
theorem dX0_inState_3 : decode cX0_inState 3 = .ok (.istore_n 3, 1) := by decide +kernel
theorem dX0_inState_4 : decode cX0_inState 4 = .ok (.iload_n 3, 1) := by decide +kernel
theorem dX0_inState_5 : decode cX0_inState 5 = .ok (.aload_n 0, 1) := by decide +kernel
theorem dX0_inState_6 : decode cX0_inState 6 = .ok (.getfield 27, 3) := by decide +kernel
theorem dX0_inState_9 : decode cX0_inState 9 = .ok (.if_icmp .ge 22, 3) := by decide +kernel
theorem dX0_inState_12 : decode cX0_inState 12 = .ok (.aload_n 0, 1) := by decide +kernel
theorem dX0_inState_13 : decode cX0_inState 13 = .ok (.getfield 21, 3) := by decide +kernel
theorem dX0_inState_16 : decode cX0_inState 16 = .ok (.iload_n 3, 1) := by decide +kernel
theorem dX0_inState_17 : decode cX0_inState 17 = .ok (.iaload, 1) := by decide +kernel
theorem dX0_inState_18 : decode cX0_inState 18 = .ok (.iload_n 1, 1) := by decide +kernel
theorem dX0_inState_19 : decode cX0_inState 19 = .ok (.if_icmp .ne 6, 3) := by decide +kernel
theorem dX0_inState_22 : decode cX0_inState 22 = .ok (.iinc 2 1, 3) := by decide +kernel
theorem dX0_inState_25 : decode cX0_inState 25 = .ok (.iinc 3 1, 3) := by decide +kernel
theorem dX0_inState_28 : decode cX0_inState 28 = .ok (.goto (-24), 3) := by decide +kernel
theorem dX0_inState_31 : decode cX0_inState 31 = .ok (.iload_n 2, 1) := by decide +kernel
theorem dX0_inState_32 : decode cX0_inState 32 = .ok (.ireturn, 1) := by decide +kernel
abbrev rX0_inState : Room := { frames := 0, cells := 0, slots := 0, locals := 0 }
set_option maxRecDepth 20000 in
theorem gd_X0_inState_B25 {x : Cx} {y : Cy} (hy : Inj y) (h : OkM x y cX0_inState RX0 4 (some .int) rX0_inState) (q0 : Nat) (hq0 : q0 < 7) (kx1 : Int32 → Mem → Ans) (kb : Int32 → Int32 → Mem → Ans) (a1 : Int32) (a2 : Int32) (a3 : Int32) (hx1 : ∀ (b2 : Int32), ∀ M0 : Mem, G x y 31 [(2, .int b2)] [] M0 (kx1 b2 M0)) (hb : ∀ (b2 b3 : Int32), ∀ M0 : Mem, G x y 4 [(0, .ref (y.2.1 (sI q0 6))), (1, .int a1), (2, .int b2), (3, .int b3)] [] M0 (kb b2 b3 M0)) (M : Mem) : G x y 25 [(0, .ref (y.2.1 (sI q0 6))), (1, .int a1), (2, .int a2), (3, .int a3)] [] M (d_X0_inState_B25 q0 kx1 kb a1 a2 a3 M) := by
  unfold d_X0_inState_B25
  refine G_iinc (pc := 25) (v := a3 + (1)) h.1 h.2.1 (fun v1 => [(3, .int v1), (0, .ref (y.2.1 (sI q0 6))), (1, .int a1), (2, .int a2)]) dX0_inState_25 (by decide) 3 rfl rfl (fun _ => rfl) (fun v1 => ?_)
  refine G_goto (pc := 28) (tgt := 4) h.1 dX0_inState_28 (by decide) ?_
  exact G_sub [1, 2, 3, 0] rfl (hb a2 v1 M)
set_option maxRecDepth 20000 in
theorem gd_X0_inState_L4_body {x : Cx} {y : Cy} (hy : Inj y) (h : OkM x y cX0_inState RX0 4 (some .int) rX0_inState) (q0 : Nat) (hq0 : q0 < 7) (a1 : Int32) (kx1 : Int32 → Mem → Ans) (hx1 : ∀ (b2 : Int32), ∀ M0 : Mem, G x y 31 [(2, .int b2)] [] M0 (kx1 b2 M0)) (kb : Int32 → Int32 → Mem → Ans) (hb : ∀ (b2 b3 : Int32), ∀ M0 : Mem, G x y 4 [(0, .ref (y.2.1 (sI q0 6))), (1, .int a1), (2, .int b2), (3, .int b3)] [] M0 (kb b2 b3 M0)) (a2 : Int32) (a3 : Int32) (M : Mem) : G x y 4 [(0, .ref (y.2.1 (sI q0 6))), (1, .int a1), (2, .int a2), (3, .int a3)] [] M (d_X0_inState_L4_body q0 a1 kx1 kb a2 a3 M) := by
  unfold d_X0_inState_L4_body
  refine G_iload_n (pc := 4) h.1 dX0_inState_4 rfl 3 rfl ?_
  refine G_aload_n (pc := 5) h.1 dX0_inState_5 rfl 0 rfl ?_
  refine G_get (pc := 6) (v := .int (M (sI q0 6) 0)) h.1 fl_X0_27 (ids_s hq0 6 (by decide)) (eS6 hq0 _) rfl dX0_inState_6 ?_
  refine G_icmp_ge (pc := 9) (tgt := 31) h.1 dX0_inState_9 (by decide) ?_ ?_
  · exact G_sub [2] rfl (hx1 a2 M)
  · refine G_aload_n (pc := 12) h.1 dX0_inState_12 rfl 0 rfl ?_
    refine G_get (pc := 13) (v := .ref (y.2.1 (sI q0 10))) h.1 fl_X0_21 (ids_s hq0 6 (by decide)) (eS6 hq0 _) rfl dX0_inState_13 ?_
    refine G_iload_n (pc := 16) h.1 dX0_inState_16 rfl 3 rfl ?_
    refine G_iald (pc := 17) h.1 (ids_s hq0 10 (by decide)) (eS10 hq0 _) dX0_inState_17 ?_
    refine G_iload_n (pc := 18) h.1 dX0_inState_18 rfl 1 rfl ?_
    refine G_icmp_ne (pc := 19) (tgt := 25) h.1 dX0_inState_19 (by decide) ?_ ?_
    · exact G_sub [0, 1, 2, 3] rfl (gd_X0_inState_B25 hy h q0 hq0 kx1 kb a1 a2 a3 hx1 hb M)
    · refine G_iinc (pc := 22) (v := a2 + (1)) h.1 h.2.1 (fun v2 => [(2, .int v2), (0, .ref (y.2.1 (sI q0 6))), (1, .int a1), (3, .int a3)]) dX0_inState_22 (by decide) 2 rfl rfl (fun _ => rfl) (fun v2 => ?_)
      exact G_sub [1, 2, 0, 3] rfl (gd_X0_inState_B25 hy h q0 hq0 kx1 kb a1 v2 a3 hx1 hb M)
set_option maxRecDepth 20000 in
theorem gd_X0_inState_L4 {x : Cx} {y : Cy} (hy : Inj y) (h : OkM x y cX0_inState RX0 4 (some .int) rX0_inState) (q0 : Nat) (hq0 : q0 < 7) (a1 : Int32) (kx1 : Int32 → Mem → Ans) (hx1 : ∀ (b2 : Int32), ∀ M0 : Mem, G x y 31 [(2, .int b2)] [] M0 (kx1 b2 M0)) : ∀ (n : Nat) (a2 : Int32) (a3 : Int32) (M : Mem), G x y 4 [(0, .ref (y.2.1 (sI q0 6))), (1, .int a1), (2, .int a2), (3, .int a3)] [] M (d_X0_inState_L4 q0 a1 kx1 n a2 a3 M) := by
  intro n
  induction n with
  | zero => intro a2 a3 M; exact G_none
  | succ n ih => intro a2 a3 M; exact gd_X0_inState_L4_body hy h q0 hq0 a1 kx1 hx1 _ ih a2 a3 M
set_option maxRecDepth 20000 in
theorem c_X0_inState (l : Launch) (y : Cy) (hy : Inj y) (q0 : Nat) (hq0 : q0 < 7) (p1 : Int32) (M : Mem) : CT l y yX0_inState cX0_inState 4 (some .int) rX0_inState [.ref (y.2.1 (sI q0 6)), .int p1] M (d_X0_inState q0 p1 M) := by
  refine CT_of (by decide) hy (Nat.le_of_ble_eq_true rfl) (fun x hxl h => ?_)
  show G x y 0 [(0, .ref (y.2.1 (sI q0 6))), (1, .int p1)] [] M _
  unfold d_X0_inState
  refine G_iconst (pc := 0) (v := (0)) h.1 dX0_inState_0 (by decide) ?_
  refine G_istore_n (pc := 1) h.1 h.2.1 [(2, .int (0 : Int32)), (0, .ref (y.2.1 (sI q0 6))), (1, .int p1)] dX0_inState_1 rfl (by decide) rfl ?_
  refine G_iconst (pc := 2) (v := (0)) h.1 dX0_inState_2 (by decide) ?_
  refine G_istore_n (pc := 3) h.1 h.2.1 [(3, .int (0 : Int32)), (2, .int (0 : Int32)), (0, .ref (y.2.1 (sI q0 6))), (1, .int p1)] dX0_inState_3 rfl (by decide) rfl ?_
  refine G_sub [2, 3, 1, 0] rfl (gd_X0_inState_L4 hy h q0 hq0 p1 _ (fun v3 M4 => ?_) fuelN (0 : Int32) (0 : Int32) M)
  refine G_iload_n (pc := 31) h.1 dX0_inState_31 rfl 0 rfl ?_
  exact G_ret (pc := 32) h rfl dX0_inState_32
theorem dX0_ofRobot_0 : decode cX0_ofRobot 0 = .ok (.iconst 0, 1) := by decide +kernel
theorem dX0_ofRobot_1 : decode cX0_ofRobot 1 = .ok (.istore_n 3, 1) := by decide +kernel
theorem dX0_ofRobot_2 : decode cX0_ofRobot 2 = .ok (.iconst 0, 1) := by decide +kernel
theorem dX0_ofRobot_3 : decode cX0_ofRobot 3 = .ok (.istore 4, 2) := by decide +kernel
theorem dX0_ofRobot_5 : decode cX0_ofRobot 5 = .ok (.iload 4, 2) := by decide +kernel
theorem dX0_ofRobot_7 : decode cX0_ofRobot 7 = .ok (.aload_n 0, 1) := by decide +kernel
theorem dX0_ofRobot_8 : decode cX0_ofRobot 8 = .ok (.getfield 27, 3) := by decide +kernel
theorem dX0_ofRobot_11 : decode cX0_ofRobot 11 = .ok (.if_icmp .ge 34, 3) := by decide +kernel
theorem dX0_ofRobot_14 : decode cX0_ofRobot 14 = .ok (.aload_n 0, 1) := by decide +kernel
theorem dX0_ofRobot_15 : decode cX0_ofRobot 15 = .ok (.getfield 9, 3) := by decide +kernel
theorem dX0_ofRobot_18 : decode cX0_ofRobot 18 = .ok (.iload 4, 2) := by decide +kernel
theorem dX0_ofRobot_20 : decode cX0_ofRobot 20 = .ok (.iaload, 1) := by decide +kernel
theorem dX0_ofRobot_21 : decode cX0_ofRobot 21 = .ok (.iload_n 1, 1) := by decide +kernel
theorem dX0_ofRobot_22 : decode cX0_ofRobot 22 = .ok (.if_icmp .ne 17, 3) := by decide +kernel
theorem dX0_ofRobot_25 : decode cX0_ofRobot 25 = .ok (.aload_n 0, 1) := by decide +kernel
theorem dX0_ofRobot_26 : decode cX0_ofRobot 26 = .ok (.getfield 21, 3) := by decide +kernel
theorem dX0_ofRobot_29 : decode cX0_ofRobot 29 = .ok (.iload 4, 2) := by decide +kernel
theorem dX0_ofRobot_31 : decode cX0_ofRobot 31 = .ok (.iaload, 1) := by decide +kernel
theorem dX0_ofRobot_32 : decode cX0_ofRobot 32 = .ok (.iload_n 2, 1) := by decide +kernel
theorem dX0_ofRobot_33 : decode cX0_ofRobot 33 = .ok (.if_icmp .ne 6, 3) := by decide +kernel
theorem dX0_ofRobot_36 : decode cX0_ofRobot 36 = .ok (.iinc 3 1, 3) := by decide +kernel
theorem dX0_ofRobot_39 : decode cX0_ofRobot 39 = .ok (.iinc 4 1, 3) := by decide +kernel
theorem dX0_ofRobot_42 : decode cX0_ofRobot 42 = .ok (.goto (-37), 3) := by decide +kernel
theorem dX0_ofRobot_45 : decode cX0_ofRobot 45 = .ok (.iload_n 3, 1) := by decide +kernel
theorem dX0_ofRobot_46 : decode cX0_ofRobot 46 = .ok (.ireturn, 1) := by decide +kernel
abbrev rX0_ofRobot : Room := { frames := 0, cells := 0, slots := 0, locals := 0 }
set_option maxRecDepth 20000 in
theorem gd_X0_ofRobot_B39 {x : Cx} {y : Cy} (hy : Inj y) (h : OkM x y cX0_ofRobot RX0 5 (some .int) rX0_ofRobot) (q0 : Nat) (hq0 : q0 < 7) (kx1 : Int32 → Mem → Ans) (kb : Int32 → Int32 → Mem → Ans) (a1 : Int32) (a2 : Int32) (a3 : Int32) (a4 : Int32) (hx1 : ∀ (b3 : Int32), ∀ M0 : Mem, G x y 45 [(3, .int b3)] [] M0 (kx1 b3 M0)) (hb : ∀ (b3 b4 : Int32), ∀ M0 : Mem, G x y 5 [(0, .ref (y.2.1 (sI q0 6))), (1, .int a1), (2, .int a2), (3, .int b3), (4, .int b4)] [] M0 (kb b3 b4 M0)) (M : Mem) : G x y 39 [(0, .ref (y.2.1 (sI q0 6))), (1, .int a1), (2, .int a2), (3, .int a3), (4, .int a4)] [] M (d_X0_ofRobot_B39 q0 kx1 kb a1 a2 a3 a4 M) := by
  unfold d_X0_ofRobot_B39
  refine G_iinc (pc := 39) (v := a4 + (1)) h.1 h.2.1 (fun v1 => [(4, .int v1), (0, .ref (y.2.1 (sI q0 6))), (1, .int a1), (2, .int a2), (3, .int a3)]) dX0_ofRobot_39 (by decide) 4 rfl rfl (fun _ => rfl) (fun v1 => ?_)
  refine G_goto (pc := 42) (tgt := 5) h.1 dX0_ofRobot_42 (by decide) ?_
  exact G_sub [1, 2, 3, 4, 0] rfl (hb a3 v1 M)
set_option maxRecDepth 20000 in
theorem gd_X0_ofRobot_L5_body {x : Cx} {y : Cy} (hy : Inj y) (h : OkM x y cX0_ofRobot RX0 5 (some .int) rX0_ofRobot) (q0 : Nat) (hq0 : q0 < 7) (a1 : Int32) (a2 : Int32) (kx1 : Int32 → Mem → Ans) (hx1 : ∀ (b3 : Int32), ∀ M0 : Mem, G x y 45 [(3, .int b3)] [] M0 (kx1 b3 M0)) (kb : Int32 → Int32 → Mem → Ans) (hb : ∀ (b3 b4 : Int32), ∀ M0 : Mem, G x y 5 [(0, .ref (y.2.1 (sI q0 6))), (1, .int a1), (2, .int a2), (3, .int b3), (4, .int b4)] [] M0 (kb b3 b4 M0)) (a3 : Int32) (a4 : Int32) (M : Mem) : G x y 5 [(0, .ref (y.2.1 (sI q0 6))), (1, .int a1), (2, .int a2), (3, .int a3), (4, .int a4)] [] M (d_X0_ofRobot_L5_body q0 a1 a2 kx1 kb a3 a4 M) := by
  unfold d_X0_ofRobot_L5_body
  refine G_iload (pc := 5) h.1 dX0_ofRobot_5 4 rfl ?_
  refine G_aload_n (pc := 7) h.1 dX0_ofRobot_7 rfl 0 rfl ?_
  refine G_get (pc := 8) (v := .int (M (sI q0 6) 0)) h.1 fl_X0_27 (ids_s hq0 6 (by decide)) (eS6 hq0 _) rfl dX0_ofRobot_8 ?_
  refine G_icmp_ge (pc := 11) (tgt := 45) h.1 dX0_ofRobot_11 (by decide) ?_ ?_
  · exact G_sub [3] rfl (hx1 a3 M)
  · refine G_aload_n (pc := 14) h.1 dX0_ofRobot_14 rfl 0 rfl ?_
    refine G_get (pc := 15) (v := .ref (y.2.1 (sI q0 7))) h.1 fl_X0_9 (ids_s hq0 6 (by decide)) (eS6 hq0 _) rfl dX0_ofRobot_15 ?_
    refine G_iload (pc := 18) h.1 dX0_ofRobot_18 4 rfl ?_
    refine G_iald (pc := 20) h.1 (ids_s hq0 7 (by decide)) (eS7 hq0 _) dX0_ofRobot_20 ?_
    refine G_iload_n (pc := 21) h.1 dX0_ofRobot_21 rfl 1 rfl ?_
    refine G_icmp_ne (pc := 22) (tgt := 39) h.1 dX0_ofRobot_22 (by decide) ?_ ?_
    · exact G_sub [0, 1, 2, 3, 4] rfl (gd_X0_ofRobot_B39 hy h q0 hq0 kx1 kb a1 a2 a3 a4 hx1 hb M)
    · refine G_aload_n (pc := 25) h.1 dX0_ofRobot_25 rfl 0 rfl ?_
      refine G_get (pc := 26) (v := .ref (y.2.1 (sI q0 10))) h.1 fl_X0_21 (ids_s hq0 6 (by decide)) (eS6 hq0 _) rfl dX0_ofRobot_26 ?_
      refine G_iload (pc := 29) h.1 dX0_ofRobot_29 4 rfl ?_
      refine G_iald (pc := 31) h.1 (ids_s hq0 10 (by decide)) (eS10 hq0 _) dX0_ofRobot_31 ?_
      refine G_iload_n (pc := 32) h.1 dX0_ofRobot_32 rfl 2 rfl ?_
      refine G_icmp_ne (pc := 33) (tgt := 39) h.1 dX0_ofRobot_33 (by decide) ?_ ?_
      · exact G_sub [0, 1, 2, 3, 4] rfl (gd_X0_ofRobot_B39 hy h q0 hq0 kx1 kb a1 a2 a3 a4 hx1 hb M)
      · refine G_iinc (pc := 36) (v := a3 + (1)) h.1 h.2.1 (fun v2 => [(3, .int v2), (0, .ref (y.2.1 (sI q0 6))), (1, .int a1), (2, .int a2), (4, .int a4)]) dX0_ofRobot_36 (by decide) 3 rfl rfl (fun _ => rfl) (fun v2 => ?_)
        exact G_sub [1, 2, 3, 0, 4] rfl (gd_X0_ofRobot_B39 hy h q0 hq0 kx1 kb a1 a2 v2 a4 hx1 hb M)
set_option maxRecDepth 20000 in
theorem gd_X0_ofRobot_L5 {x : Cx} {y : Cy} (hy : Inj y) (h : OkM x y cX0_ofRobot RX0 5 (some .int) rX0_ofRobot) (q0 : Nat) (hq0 : q0 < 7) (a1 : Int32) (a2 : Int32) (kx1 : Int32 → Mem → Ans) (hx1 : ∀ (b3 : Int32), ∀ M0 : Mem, G x y 45 [(3, .int b3)] [] M0 (kx1 b3 M0)) : ∀ (n : Nat) (a3 : Int32) (a4 : Int32) (M : Mem), G x y 5 [(0, .ref (y.2.1 (sI q0 6))), (1, .int a1), (2, .int a2), (3, .int a3), (4, .int a4)] [] M (d_X0_ofRobot_L5 q0 a1 a2 kx1 n a3 a4 M) := by
  intro n
  induction n with
  | zero => intro a3 a4 M; exact G_none
  | succ n ih => intro a3 a4 M; exact gd_X0_ofRobot_L5_body hy h q0 hq0 a1 a2 kx1 hx1 _ ih a3 a4 M
set_option maxRecDepth 20000 in
theorem c_X0_ofRobot (l : Launch) (y : Cy) (hy : Inj y) (q0 : Nat) (hq0 : q0 < 7) (p1 : Int32) (p2 : Int32) (M : Mem) : CT l y yX0_ofRobot cX0_ofRobot 5 (some .int) rX0_ofRobot [.ref (y.2.1 (sI q0 6)), .int p1, .int p2] M (d_X0_ofRobot q0 p1 p2 M) := by
  refine CT_of (by decide) hy (Nat.le_of_ble_eq_true rfl) (fun x hxl h => ?_)
  show G x y 0 [(0, .ref (y.2.1 (sI q0 6))), (1, .int p1), (2, .int p2)] [] M _
  unfold d_X0_ofRobot
  refine G_iconst (pc := 0) (v := (0)) h.1 dX0_ofRobot_0 (by decide) ?_
  refine G_istore_n (pc := 1) h.1 h.2.1 [(3, .int (0 : Int32)), (0, .ref (y.2.1 (sI q0 6))), (1, .int p1), (2, .int p2)] dX0_ofRobot_1 rfl (by decide) rfl ?_
  refine G_iconst (pc := 2) (v := (0)) h.1 dX0_ofRobot_2 (by decide) ?_
  refine G_istore (pc := 3) h.1 h.2.1 [(4, .int (0 : Int32)), (3, .int (0 : Int32)), (0, .ref (y.2.1 (sI q0 6))), (1, .int p1), (2, .int p2)] dX0_ofRobot_3 (by decide) rfl ?_
  refine G_sub [2, 3, 4, 1, 0] rfl (gd_X0_ofRobot_L5 hy h q0 hq0 p1 p2 _ (fun v3 M4 => ?_) fuelN (0 : Int32) (0 : Int32) M)
  refine G_iload_n (pc := 45) h.1 dX0_ofRobot_45 rfl 0 rfl ?_
  exact G_ret (pc := 46) h rfl dX0_ofRobot_46
theorem dX0_doneOfRecipe_0 : decode cX0_doneOfRecipe 0 = .ok (.iconst 0, 1) := by decide +kernel
theorem dX0_doneOfRecipe_1 : decode cX0_doneOfRecipe 1 = .ok (.istore_n 2, 1) := by decide +kernel
theorem dX0_doneOfRecipe_2 : decode cX0_doneOfRecipe 2 = .ok (.iconst 0, 1) := by decide +kernel
theorem dX0_doneOfRecipe_3 : decode cX0_doneOfRecipe 3 = .ok (.istore_n 3, 1) := by decide +kernel
theorem dX0_doneOfRecipe_4 : decode cX0_doneOfRecipe 4 = .ok (.iload_n 3, 1) := by decide +kernel
theorem dX0_doneOfRecipe_5 : decode cX0_doneOfRecipe 5 = .ok (.aload_n 0, 1) := by decide +kernel
theorem dX0_doneOfRecipe_6 : decode cX0_doneOfRecipe 6 = .ok (.getfield 27, 3) := by decide +kernel
theorem dX0_doneOfRecipe_9 : decode cX0_doneOfRecipe 9 = .ok (.if_icmp .ge 32, 3) := by decide +kernel
theorem dX0_doneOfRecipe_12 : decode cX0_doneOfRecipe 12 = .ok (.aload_n 0, 1) := by decide +kernel
theorem dX0_doneOfRecipe_13 : decode cX0_doneOfRecipe 13 = .ok (.getfield 15, 3) := by decide +kernel
theorem dX0_doneOfRecipe_16 : decode cX0_doneOfRecipe 16 = .ok (.iload_n 3, 1) := by decide +kernel
theorem dX0_doneOfRecipe_17 : decode cX0_doneOfRecipe 17 = .ok (.iaload, 1) := by decide +kernel
theorem dX0_doneOfRecipe_18 : decode cX0_doneOfRecipe 18 = .ok (.iload_n 1, 1) := by decide +kernel
theorem dX0_doneOfRecipe_19 : decode cX0_doneOfRecipe 19 = .ok (.if_icmp .ne 16, 3) := by decide +kernel
theorem dX0_doneOfRecipe_22 : decode cX0_doneOfRecipe 22 = .ok (.aload_n 0, 1) := by decide +kernel
theorem dX0_doneOfRecipe_23 : decode cX0_doneOfRecipe 23 = .ok (.getfield 21, 3) := by decide +kernel
theorem dX0_doneOfRecipe_26 : decode cX0_doneOfRecipe 26 = .ok (.iload_n 3, 1) := by decide +kernel
theorem dX0_doneOfRecipe_27 : decode cX0_doneOfRecipe 27 = .ok (.iaload, 1) := by decide +kernel
theorem dX0_doneOfRecipe_28 : decode cX0_doneOfRecipe 28 = .ok (.iconst 2, 1) := by decide +kernel
theorem dX0_doneOfRecipe_29 : decode cX0_doneOfRecipe 29 = .ok (.if_icmp .ne 6, 3) := by decide +kernel
theorem dX0_doneOfRecipe_32 : decode cX0_doneOfRecipe 32 = .ok (.iinc 2 1, 3) := by decide +kernel
theorem dX0_doneOfRecipe_35 : decode cX0_doneOfRecipe 35 = .ok (.iinc 3 1, 3) := by decide +kernel
theorem dX0_doneOfRecipe_38 : decode cX0_doneOfRecipe 38 = .ok (.goto (-34), 3) := by decide +kernel
theorem dX0_doneOfRecipe_41 : decode cX0_doneOfRecipe 41 = .ok (.iload_n 2, 1) := by decide +kernel
theorem dX0_doneOfRecipe_42 : decode cX0_doneOfRecipe 42 = .ok (.ireturn, 1) := by decide +kernel
abbrev rX0_doneOfRecipe : Room := { frames := 0, cells := 0, slots := 0, locals := 0 }
set_option maxRecDepth 20000 in
theorem gd_X0_doneOfRecipe_B35 {x : Cx} {y : Cy} (hy : Inj y) (h : OkM x y cX0_doneOfRecipe RX0 4 (some .int) rX0_doneOfRecipe) (q0 : Nat) (hq0 : q0 < 7) (kx1 : Int32 → Mem → Ans) (kb : Int32 → Int32 → Mem → Ans) (a1 : Int32) (a2 : Int32) (a3 : Int32) (hx1 : ∀ (b2 : Int32), ∀ M0 : Mem, G x y 41 [(2, .int b2)] [] M0 (kx1 b2 M0)) (hb : ∀ (b2 b3 : Int32), ∀ M0 : Mem, G x y 4 [(0, .ref (y.2.1 (sI q0 6))), (1, .int a1), (2, .int b2), (3, .int b3)] [] M0 (kb b2 b3 M0)) (M : Mem) : G x y 35 [(0, .ref (y.2.1 (sI q0 6))), (1, .int a1), (2, .int a2), (3, .int a3)] [] M (d_X0_doneOfRecipe_B35 q0 kx1 kb a1 a2 a3 M) := by
  unfold d_X0_doneOfRecipe_B35
  refine G_iinc (pc := 35) (v := a3 + (1)) h.1 h.2.1 (fun v1 => [(3, .int v1), (0, .ref (y.2.1 (sI q0 6))), (1, .int a1), (2, .int a2)]) dX0_doneOfRecipe_35 (by decide) 3 rfl rfl (fun _ => rfl) (fun v1 => ?_)
  refine G_goto (pc := 38) (tgt := 4) h.1 dX0_doneOfRecipe_38 (by decide) ?_
  exact G_sub [1, 2, 3, 0] rfl (hb a2 v1 M)
set_option maxRecDepth 20000 in
theorem gd_X0_doneOfRecipe_L4_body {x : Cx} {y : Cy} (hy : Inj y) (h : OkM x y cX0_doneOfRecipe RX0 4 (some .int) rX0_doneOfRecipe) (q0 : Nat) (hq0 : q0 < 7) (a1 : Int32) (kx1 : Int32 → Mem → Ans) (hx1 : ∀ (b2 : Int32), ∀ M0 : Mem, G x y 41 [(2, .int b2)] [] M0 (kx1 b2 M0)) (kb : Int32 → Int32 → Mem → Ans) (hb : ∀ (b2 b3 : Int32), ∀ M0 : Mem, G x y 4 [(0, .ref (y.2.1 (sI q0 6))), (1, .int a1), (2, .int b2), (3, .int b3)] [] M0 (kb b2 b3 M0)) (a2 : Int32) (a3 : Int32) (M : Mem) : G x y 4 [(0, .ref (y.2.1 (sI q0 6))), (1, .int a1), (2, .int a2), (3, .int a3)] [] M (d_X0_doneOfRecipe_L4_body q0 a1 kx1 kb a2 a3 M) := by
  unfold d_X0_doneOfRecipe_L4_body
  refine G_iload_n (pc := 4) h.1 dX0_doneOfRecipe_4 rfl 3 rfl ?_
  refine G_aload_n (pc := 5) h.1 dX0_doneOfRecipe_5 rfl 0 rfl ?_
  refine G_get (pc := 6) (v := .int (M (sI q0 6) 0)) h.1 fl_X0_27 (ids_s hq0 6 (by decide)) (eS6 hq0 _) rfl dX0_doneOfRecipe_6 ?_
  refine G_icmp_ge (pc := 9) (tgt := 41) h.1 dX0_doneOfRecipe_9 (by decide) ?_ ?_
  · exact G_sub [2] rfl (hx1 a2 M)
  · refine G_aload_n (pc := 12) h.1 dX0_doneOfRecipe_12 rfl 0 rfl ?_
    refine G_get (pc := 13) (v := .ref (y.2.1 (sI q0 8))) h.1 fl_X0_15 (ids_s hq0 6 (by decide)) (eS6 hq0 _) rfl dX0_doneOfRecipe_13 ?_
    refine G_iload_n (pc := 16) h.1 dX0_doneOfRecipe_16 rfl 3 rfl ?_
    refine G_iald (pc := 17) h.1 (ids_s hq0 8 (by decide)) (eS8 hq0 _) dX0_doneOfRecipe_17 ?_
    refine G_iload_n (pc := 18) h.1 dX0_doneOfRecipe_18 rfl 1 rfl ?_
    refine G_icmp_ne (pc := 19) (tgt := 35) h.1 dX0_doneOfRecipe_19 (by decide) ?_ ?_
    · exact G_sub [0, 1, 2, 3] rfl (gd_X0_doneOfRecipe_B35 hy h q0 hq0 kx1 kb a1 a2 a3 hx1 hb M)
    · refine G_aload_n (pc := 22) h.1 dX0_doneOfRecipe_22 rfl 0 rfl ?_
      refine G_get (pc := 23) (v := .ref (y.2.1 (sI q0 10))) h.1 fl_X0_21 (ids_s hq0 6 (by decide)) (eS6 hq0 _) rfl dX0_doneOfRecipe_23 ?_
      refine G_iload_n (pc := 26) h.1 dX0_doneOfRecipe_26 rfl 3 rfl ?_
      refine G_iald (pc := 27) h.1 (ids_s hq0 10 (by decide)) (eS10 hq0 _) dX0_doneOfRecipe_27 ?_
      refine G_iconst (pc := 28) (v := (2)) h.1 dX0_doneOfRecipe_28 (by decide) ?_
      refine G_icmp_ne (pc := 29) (tgt := 35) h.1 dX0_doneOfRecipe_29 (by decide) ?_ ?_
      · exact G_sub [0, 1, 2, 3] rfl (gd_X0_doneOfRecipe_B35 hy h q0 hq0 kx1 kb a1 a2 a3 hx1 hb M)
      · refine G_iinc (pc := 32) (v := a2 + (1)) h.1 h.2.1 (fun v2 => [(2, .int v2), (0, .ref (y.2.1 (sI q0 6))), (1, .int a1), (3, .int a3)]) dX0_doneOfRecipe_32 (by decide) 2 rfl rfl (fun _ => rfl) (fun v2 => ?_)
        exact G_sub [1, 2, 0, 3] rfl (gd_X0_doneOfRecipe_B35 hy h q0 hq0 kx1 kb a1 v2 a3 hx1 hb M)
set_option maxRecDepth 20000 in
theorem gd_X0_doneOfRecipe_L4 {x : Cx} {y : Cy} (hy : Inj y) (h : OkM x y cX0_doneOfRecipe RX0 4 (some .int) rX0_doneOfRecipe) (q0 : Nat) (hq0 : q0 < 7) (a1 : Int32) (kx1 : Int32 → Mem → Ans) (hx1 : ∀ (b2 : Int32), ∀ M0 : Mem, G x y 41 [(2, .int b2)] [] M0 (kx1 b2 M0)) : ∀ (n : Nat) (a2 : Int32) (a3 : Int32) (M : Mem), G x y 4 [(0, .ref (y.2.1 (sI q0 6))), (1, .int a1), (2, .int a2), (3, .int a3)] [] M (d_X0_doneOfRecipe_L4 q0 a1 kx1 n a2 a3 M) := by
  intro n
  induction n with
  | zero => intro a2 a3 M; exact G_none
  | succ n ih => intro a2 a3 M; exact gd_X0_doneOfRecipe_L4_body hy h q0 hq0 a1 kx1 hx1 _ ih a2 a3 M
set_option maxRecDepth 20000 in
theorem c_X0_doneOfRecipe (l : Launch) (y : Cy) (hy : Inj y) (q0 : Nat) (hq0 : q0 < 7) (p1 : Int32) (M : Mem) : CT l y yX0_doneOfRecipe cX0_doneOfRecipe 4 (some .int) rX0_doneOfRecipe [.ref (y.2.1 (sI q0 6)), .int p1] M (d_X0_doneOfRecipe q0 p1 M) := by
  refine CT_of (by decide) hy (Nat.le_of_ble_eq_true rfl) (fun x hxl h => ?_)
  show G x y 0 [(0, .ref (y.2.1 (sI q0 6))), (1, .int p1)] [] M _
  unfold d_X0_doneOfRecipe
  refine G_iconst (pc := 0) (v := (0)) h.1 dX0_doneOfRecipe_0 (by decide) ?_
  refine G_istore_n (pc := 1) h.1 h.2.1 [(2, .int (0 : Int32)), (0, .ref (y.2.1 (sI q0 6))), (1, .int p1)] dX0_doneOfRecipe_1 rfl (by decide) rfl ?_
  refine G_iconst (pc := 2) (v := (0)) h.1 dX0_doneOfRecipe_2 (by decide) ?_
  refine G_istore_n (pc := 3) h.1 h.2.1 [(3, .int (0 : Int32)), (2, .int (0 : Int32)), (0, .ref (y.2.1 (sI q0 6))), (1, .int p1)] dX0_doneOfRecipe_3 rfl (by decide) rfl ?_
  refine G_sub [2, 3, 1, 0] rfl (gd_X0_doneOfRecipe_L4 hy h q0 hq0 p1 _ (fun v3 M4 => ?_) fuelN (0 : Int32) (0 : Int32) M)
  refine G_iload_n (pc := 41) h.1 dX0_doneOfRecipe_41 rfl 0 rfl ?_
  exact G_ret (pc := 42) h rfl dX0_doneOfRecipe_42
theorem dX0_copyFrom_0 : decode cX0_copyFrom 0 = .ok (.aload_n 0, 1) := by decide +kernel
theorem dX0_copyFrom_1 : decode cX0_copyFrom 1 = .ok (.aload_n 1, 1) := by decide +kernel
theorem dX0_copyFrom_2 : decode cX0_copyFrom 2 = .ok (.getfield 27, 3) := by decide +kernel
theorem dX0_copyFrom_5 : decode cX0_copyFrom 5 = .ok (.putfield 27, 3) := by decide +kernel
theorem dX0_copyFrom_8 : decode cX0_copyFrom 8 = .ok (.aload_n 1, 1) := by decide +kernel
theorem dX0_copyFrom_9 : decode cX0_copyFrom 9 = .ok (.getfield 9, 3) := by decide +kernel
theorem dX0_copyFrom_12 : decode cX0_copyFrom 12 = .ok (.iconst 0, 1) := by decide +kernel
theorem dX0_copyFrom_13 : decode cX0_copyFrom 13 = .ok (.aload_n 0, 1) := by decide +kernel
theorem dX0_copyFrom_14 : decode cX0_copyFrom 14 = .ok (.getfield 9, 3) := by decide +kernel
theorem dX0_copyFrom_17 : decode cX0_copyFrom 17 = .ok (.iconst 0, 1) := by decide +kernel
theorem dX0_copyFrom_18 : decode cX0_copyFrom 18 = .ok (.bipush 60, 2) := by decide +kernel
theorem dX0_copyFrom_20 : decode cX0_copyFrom 20 = .ok (.invokestatic 35, 3) := by decide +kernel
theorem dX0_copyFrom_23 : decode cX0_copyFrom 23 = .ok (.aload_n 1, 1) := by decide +kernel
theorem dX0_copyFrom_24 : decode cX0_copyFrom 24 = .ok (.getfield 15, 3) := by decide +kernel
theorem dX0_copyFrom_27 : decode cX0_copyFrom 27 = .ok (.iconst 0, 1) := by decide +kernel
theorem dX0_copyFrom_28 : decode cX0_copyFrom 28 = .ok (.aload_n 0, 1) := by decide +kernel
theorem dX0_copyFrom_29 : decode cX0_copyFrom 29 = .ok (.getfield 15, 3) := by decide +kernel
theorem dX0_copyFrom_32 : decode cX0_copyFrom 32 = .ok (.iconst 0, 1) := by decide +kernel
theorem dX0_copyFrom_33 : decode cX0_copyFrom 33 = .ok (.bipush 60, 2) := by decide +kernel
theorem dX0_copyFrom_35 : decode cX0_copyFrom 35 = .ok (.invokestatic 35, 3) := by decide +kernel
theorem dX0_copyFrom_38 : decode cX0_copyFrom 38 = .ok (.aload_n 1, 1) := by decide +kernel
theorem dX0_copyFrom_39 : decode cX0_copyFrom 39 = .ok (.getfield 18, 3) := by decide +kernel
theorem dX0_copyFrom_42 : decode cX0_copyFrom 42 = .ok (.iconst 0, 1) := by decide +kernel
theorem dX0_copyFrom_43 : decode cX0_copyFrom 43 = .ok (.aload_n 0, 1) := by decide +kernel
theorem dX0_copyFrom_44 : decode cX0_copyFrom 44 = .ok (.getfield 18, 3) := by decide +kernel
theorem dX0_copyFrom_47 : decode cX0_copyFrom 47 = .ok (.iconst 0, 1) := by decide +kernel
theorem dX0_copyFrom_48 : decode cX0_copyFrom 48 = .ok (.bipush 60, 2) := by decide +kernel
theorem dX0_copyFrom_50 : decode cX0_copyFrom 50 = .ok (.invokestatic 35, 3) := by decide +kernel
theorem dX0_copyFrom_53 : decode cX0_copyFrom 53 = .ok (.aload_n 1, 1) := by decide +kernel
theorem dX0_copyFrom_54 : decode cX0_copyFrom 54 = .ok (.getfield 21, 3) := by decide +kernel
theorem dX0_copyFrom_57 : decode cX0_copyFrom 57 = .ok (.iconst 0, 1) := by decide +kernel
theorem dX0_copyFrom_58 : decode cX0_copyFrom 58 = .ok (.aload_n 0, 1) := by decide +kernel
theorem dX0_copyFrom_59 : decode cX0_copyFrom 59 = .ok (.getfield 21, 3) := by decide +kernel
theorem dX0_copyFrom_62 : decode cX0_copyFrom 62 = .ok (.iconst 0, 1) := by decide +kernel
theorem dX0_copyFrom_63 : decode cX0_copyFrom 63 = .ok (.bipush 60, 2) := by decide +kernel
theorem dX0_copyFrom_65 : decode cX0_copyFrom 65 = .ok (.invokestatic 35, 3) := by decide +kernel
theorem dX0_copyFrom_68 : decode cX0_copyFrom 68 = .ok (.aload_n 1, 1) := by decide +kernel
theorem dX0_copyFrom_69 : decode cX0_copyFrom 69 = .ok (.getfield 24, 3) := by decide +kernel
theorem dX0_copyFrom_72 : decode cX0_copyFrom 72 = .ok (.iconst 0, 1) := by decide +kernel
theorem dX0_copyFrom_73 : decode cX0_copyFrom 73 = .ok (.aload_n 0, 1) := by decide +kernel
theorem dX0_copyFrom_74 : decode cX0_copyFrom 74 = .ok (.getfield 24, 3) := by decide +kernel
theorem dX0_copyFrom_77 : decode cX0_copyFrom 77 = .ok (.iconst 0, 1) := by decide +kernel
theorem dX0_copyFrom_78 : decode cX0_copyFrom 78 = .ok (.bipush 60, 2) := by decide +kernel
theorem dX0_copyFrom_80 : decode cX0_copyFrom 80 = .ok (.invokestatic 35, 3) := by decide +kernel
theorem dX0_copyFrom_83 : decode cX0_copyFrom 83 = .ok (.return_, 1) := by decide +kernel
abbrev rX0_copyFrom : Room := { frames := 1, cells := 0, slots := 0, locals := 18 }
set_option maxRecDepth 20000 in
theorem c_X0_copyFrom (l : Launch) (y : Cy) (hy : Inj y) (q0 : Nat) (q1 : Nat) (hq0 : q0 < 7) (hq1 : q1 < 7) (M : Mem) : CT l y yX0_copyFrom cX0_copyFrom 2 none rX0_copyFrom [.ref (y.2.1 (sI q0 6)), .ref (y.2.1 (sI q1 6))] M (d_X0_copyFrom q0 q1 M) := by
  refine CT_of (by decide) hy (Nat.le_of_ble_eq_true rfl) (fun x hxl h => ?_)
  show G x y 0 [(0, .ref (y.2.1 (sI q0 6))), (1, .ref (y.2.1 (sI q1 6)))] [] M _
  unfold d_X0_copyFrom
  refine G_aload_n (pc := 0) h.1 dX0_copyFrom_0 rfl 0 rfl ?_
  refine G_aload_n (pc := 1) h.1 dX0_copyFrom_1 rfl 1 rfl ?_
  refine G_get (pc := 2) (v := .int (M (sI q1 6) 0)) h.1 fl_X0_27 (ids_s hq1 6 (by decide)) (eS6 hq1 _) rfl dX0_copyFrom_2 ?_
  refine G_put (pc := 5) h.1 fp_X0_27 (ids_s hq0 6 (by decide)) (fun m => eS6 hq0 m) (fun _ => rfl) (fun _ => Nat.le_of_ble_eq_true rfl) rfl rfl dX0_copyFrom_5 (fun M1 => ?_)
  refine G_aload_n (pc := 8) h.1 dX0_copyFrom_8 rfl 1 rfl ?_
  refine G_get (pc := 9) (v := .ref (y.2.1 (sI q1 7))) h.1 fl_X0_9 (ids_s hq1 6 (by decide)) (eS6 hq1 _) rfl dX0_copyFrom_9 ?_
  refine G_iconst (pc := 12) (v := (0)) h.1 dX0_copyFrom_12 (by decide) ?_
  refine G_aload_n (pc := 13) h.1 dX0_copyFrom_13 rfl 0 rfl ?_
  refine G_get (pc := 14) (v := .ref (y.2.1 (sI q0 7))) h.1 fl_X0_9 (ids_s hq0 6 (by decide)) (eS6 hq0 _) rfl dX0_copyFrom_14 ?_
  refine G_iconst (pc := 17) (v := (0)) h.1 dX0_copyFrom_17 (by decide) ?_
  refine G_bipush (pc := 18) (v := (60)) h.1 dX0_copyFrom_18 (by decide) ?_
  refine G_copy (pc := 20) h.1 h.2.2.1 mc_X0_35 (ids_s hq1 7 (by decide)) (ids_s hq0 7 (by decide)) (eS7 hq1 _) (fun m => eS7 hq0 m) (by decide) (by decide) dX0_copyFrom_20 (Nat.le_of_ble_eq_true rfl) (Nat.le_of_ble_eq_true rfl) (fun M2 => ?_)
  refine G_aload_n (pc := 23) h.1 dX0_copyFrom_23 rfl 1 rfl ?_
  refine G_get (pc := 24) (v := .ref (y.2.1 (sI q1 8))) h.1 fl_X0_15 (ids_s hq1 6 (by decide)) (eS6 hq1 _) rfl dX0_copyFrom_24 ?_
  refine G_iconst (pc := 27) (v := (0)) h.1 dX0_copyFrom_27 (by decide) ?_
  refine G_aload_n (pc := 28) h.1 dX0_copyFrom_28 rfl 0 rfl ?_
  refine G_get (pc := 29) (v := .ref (y.2.1 (sI q0 8))) h.1 fl_X0_15 (ids_s hq0 6 (by decide)) (eS6 hq0 _) rfl dX0_copyFrom_29 ?_
  refine G_iconst (pc := 32) (v := (0)) h.1 dX0_copyFrom_32 (by decide) ?_
  refine G_bipush (pc := 33) (v := (60)) h.1 dX0_copyFrom_33 (by decide) ?_
  refine G_copy (pc := 35) h.1 h.2.2.1 mc_X0_35 (ids_s hq1 8 (by decide)) (ids_s hq0 8 (by decide)) (eS8 hq1 _) (fun m => eS8 hq0 m) (by decide) (by decide) dX0_copyFrom_35 (Nat.le_of_ble_eq_true rfl) (Nat.le_of_ble_eq_true rfl) (fun M3 => ?_)
  refine G_aload_n (pc := 38) h.1 dX0_copyFrom_38 rfl 1 rfl ?_
  refine G_get (pc := 39) (v := .ref (y.2.1 (sI q1 9))) h.1 fl_X0_18 (ids_s hq1 6 (by decide)) (eS6 hq1 _) rfl dX0_copyFrom_39 ?_
  refine G_iconst (pc := 42) (v := (0)) h.1 dX0_copyFrom_42 (by decide) ?_
  refine G_aload_n (pc := 43) h.1 dX0_copyFrom_43 rfl 0 rfl ?_
  refine G_get (pc := 44) (v := .ref (y.2.1 (sI q0 9))) h.1 fl_X0_18 (ids_s hq0 6 (by decide)) (eS6 hq0 _) rfl dX0_copyFrom_44 ?_
  refine G_iconst (pc := 47) (v := (0)) h.1 dX0_copyFrom_47 (by decide) ?_
  refine G_bipush (pc := 48) (v := (60)) h.1 dX0_copyFrom_48 (by decide) ?_
  refine G_copy (pc := 50) h.1 h.2.2.1 mc_X0_35 (ids_s hq1 9 (by decide)) (ids_s hq0 9 (by decide)) (eS9 hq1 _) (fun m => eS9 hq0 m) (by decide) (by decide) dX0_copyFrom_50 (Nat.le_of_ble_eq_true rfl) (Nat.le_of_ble_eq_true rfl) (fun M4 => ?_)
  refine G_aload_n (pc := 53) h.1 dX0_copyFrom_53 rfl 1 rfl ?_
  refine G_get (pc := 54) (v := .ref (y.2.1 (sI q1 10))) h.1 fl_X0_21 (ids_s hq1 6 (by decide)) (eS6 hq1 _) rfl dX0_copyFrom_54 ?_
  refine G_iconst (pc := 57) (v := (0)) h.1 dX0_copyFrom_57 (by decide) ?_
  refine G_aload_n (pc := 58) h.1 dX0_copyFrom_58 rfl 0 rfl ?_
  refine G_get (pc := 59) (v := .ref (y.2.1 (sI q0 10))) h.1 fl_X0_21 (ids_s hq0 6 (by decide)) (eS6 hq0 _) rfl dX0_copyFrom_59 ?_
  refine G_iconst (pc := 62) (v := (0)) h.1 dX0_copyFrom_62 (by decide) ?_
  refine G_bipush (pc := 63) (v := (60)) h.1 dX0_copyFrom_63 (by decide) ?_
  refine G_copy (pc := 65) h.1 h.2.2.1 mc_X0_35 (ids_s hq1 10 (by decide)) (ids_s hq0 10 (by decide)) (eS10 hq1 _) (fun m => eS10 hq0 m) (by decide) (by decide) dX0_copyFrom_65 (Nat.le_of_ble_eq_true rfl) (Nat.le_of_ble_eq_true rfl) (fun M5 => ?_)
  refine G_aload_n (pc := 68) h.1 dX0_copyFrom_68 rfl 1 rfl ?_
  refine G_get (pc := 69) (v := .ref (y.2.1 (sI q1 11))) h.1 fl_X0_24 (ids_s hq1 6 (by decide)) (eS6 hq1 _) rfl dX0_copyFrom_69 ?_
  refine G_iconst (pc := 72) (v := (0)) h.1 dX0_copyFrom_72 (by decide) ?_
  refine G_aload_n (pc := 73) h.1 dX0_copyFrom_73 rfl 0 rfl ?_
  refine G_get (pc := 74) (v := .ref (y.2.1 (sI q0 11))) h.1 fl_X0_24 (ids_s hq0 6 (by decide)) (eS6 hq0 _) rfl dX0_copyFrom_74 ?_
  refine G_iconst (pc := 77) (v := (0)) h.1 dX0_copyFrom_77 (by decide) ?_
  refine G_bipush (pc := 78) (v := (60)) h.1 dX0_copyFrom_78 (by decide) ?_
  refine G_copy (pc := 80) h.1 h.2.2.1 mc_X0_35 (ids_s hq1 11 (by decide)) (ids_s hq0 11 (by decide)) (eS11 hq1 _) (fun m => eS11 hq0 m) (by decide) (by decide) dX0_copyFrom_80 (Nat.le_of_ble_eq_true rfl) (Nat.le_of_ble_eq_true rfl) (fun M6 => ?_)
  exact G_vret (pc := 83) h dX0_copyFrom_83
theorem dX4_has_0 : decode cX4_has 0 = .ok (.iload_n 1, 1) := by decide +kernel
theorem dX4_has_1 : decode cX4_has 1 = .ok (.ifCond .lt 15, 3) := by decide +kernel
theorem dX4_has_4 : decode cX4_has 4 = .ok (.iload_n 1, 1) := by decide +kernel
theorem dX4_has_5 : decode cX4_has 5 = .ok (.aload_n 0, 1) := by decide +kernel
theorem dX4_has_6 : decode cX4_has 6 = .ok (.getfield 24, 3) := by decide +kernel
theorem dX4_has_9 : decode cX4_has 9 = .ok (.if_icmp .ge 7, 3) := by decide +kernel
theorem dX4_has_12 : decode cX4_has 12 = .ok (.iconst 1, 1) := by decide +kernel
theorem dX4_has_13 : decode cX4_has 13 = .ok (.goto 4, 3) := by decide +kernel
theorem dX4_has_16 : decode cX4_has 16 = .ok (.iconst 0, 1) := by decide +kernel
theorem dX4_has_17 : decode cX4_has 17 = .ok (.ireturn, 1) := by decide +kernel
abbrev rX4_has : Room := { frames := 0, cells := 0, slots := 0, locals := 0 }
set_option maxRecDepth 20000 in
theorem c_X4_has (l : Launch) (y : Cy) (hy : Inj y) (q0 : Nat) (hq0 : q0 < 7) (p1 : Int32) (M : Mem) : CT l y yX4_has cX4_has 2 (some .boolean) rX4_has [.ref (y.2.1 (sI q0 1)), .int p1] M (d_X4_has q0 p1 M) := by
  refine CT_of (by decide) hy (Nat.le_of_ble_eq_true rfl) (fun x hxl h => ?_)
  show G x y 0 [(0, .ref (y.2.1 (sI q0 1))), (1, .int p1)] [] M _
  unfold d_X4_has
  refine G_iload_n (pc := 0) h.1 dX4_has_0 rfl 1 rfl ?_
  refine G_if_lt (pc := 1) (tgt := 16) h.1 dX4_has_1 (by decide) ?_ ?_
  · refine G_iconst (pc := 16) (v := (0)) h.1 dX4_has_16 (by decide) ?_
    exact G_ret (pc := 17) h rfl dX4_has_17
  · refine G_iload_n (pc := 4) h.1 dX4_has_4 rfl 1 rfl ?_
    refine G_aload_n (pc := 5) h.1 dX4_has_5 rfl 0 rfl ?_
    refine G_get (pc := 6) (v := .int (M (sI q0 1) 0)) h.1 fl_X4_24 (ids_s hq0 1 (by decide)) (eS1 hq0 _) rfl dX4_has_6 ?_
    refine G_icmp_ge (pc := 9) (tgt := 16) h.1 dX4_has_9 (by decide) ?_ ?_
    · refine G_iconst (pc := 16) (v := (0)) h.1 dX4_has_16 (by decide) ?_
      exact G_ret (pc := 17) h rfl dX4_has_17
    · refine G_iconst (pc := 12) (v := (1)) h.1 dX4_has_12 (by decide) ?_
      refine G_goto (pc := 13) (tgt := 17) h.1 dX4_has_13 (by decide) ?_
      exact G_ret (pc := 17) h rfl dX4_has_17
theorem dX1_addRow_0 : decode cX1_addRow 0 = .ok (.aload_n 0, 1) := by decide +kernel
theorem dX1_addRow_1 : decode cX1_addRow 1 = .ok (.getfield 69, 3) := by decide +kernel
theorem dX1_addRow_4 : decode cX1_addRow 4 = .ok (.bipush 61, 2) := by decide +kernel
theorem dX1_addRow_6 : decode cX1_addRow 6 = .ok (.if_icmp .ge 14, 3) := by decide +kernel
theorem dX1_addRow_9 : decode cX1_addRow 9 = .ok (.aload_n 1, 1) := by decide +kernel
theorem dX1_addRow_10 : decode cX1_addRow 10 = .ok (.getfield 97, 3) := by decide +kernel
theorem dX1_addRow_13 : decode cX1_addRow 13 = .ok (.iload_n 3, 1) := by decide +kernel
theorem dX1_addRow_14 : decode cX1_addRow 14 = .ok (.invokevirtual 101, 3) := by decide +kernel
theorem dX1_addRow_17 : decode cX1_addRow 17 = .ok (.ifCond .ne 4, 3) := by decide +kernel
theorem dX1_addRow_20 : decode cX1_addRow 20 = .ok (.return_, 1) := by decide +kernel
theorem dX1_addRow_21 : decode cX1_addRow 21 = .ok (.aload_n 1, 1) := by decide +kernel
theorem dX1_addRow_22 : decode cX1_addRow 22 = .ok (.getfield 72, 3) := by decide +kernel
theorem dX1_addRow_25 : decode cX1_addRow 25 = .ok (.iload_n 2, 1) := by decide +kernel
theorem dX1_addRow_26 : decode cX1_addRow 26 = .ok (.invokevirtual 106, 3) := by decide +kernel
theorem dX1_addRow_29 : decode cX1_addRow 29 = .ok (.istore 5, 2) := by decide +kernel
theorem dX1_addRow_31 : decode cX1_addRow 31 = .ok (.aload_n 0, 1) := by decide +kernel
theorem dX1_addRow_32 : decode cX1_addRow 32 = .ok (.getfield 11, 3) := by decide +kernel
theorem dX1_addRow_35 : decode cX1_addRow 35 = .ok (.aload_n 0, 1) := by decide +kernel
theorem dX1_addRow_36 : decode cX1_addRow 36 = .ok (.getfield 69, 3) := by decide +kernel
theorem dX1_addRow_39 : decode cX1_addRow 39 = .ok (.iload_n 2, 1) := by decide +kernel
theorem dX1_addRow_40 : decode cX1_addRow 40 = .ok (.iastore, 1) := by decide +kernel
theorem dX1_addRow_41 : decode cX1_addRow 41 = .ok (.aload_n 0, 1) := by decide +kernel
theorem dX1_addRow_42 : decode cX1_addRow 42 = .ok (.getfield 15, 3) := by decide +kernel
theorem dX1_addRow_45 : decode cX1_addRow 45 = .ok (.aload_n 0, 1) := by decide +kernel
theorem dX1_addRow_46 : decode cX1_addRow 46 = .ok (.getfield 69, 3) := by decide +kernel
theorem dX1_addRow_49 : decode cX1_addRow 49 = .ok (.iload 5, 2) := by decide +kernel
theorem dX1_addRow_51 : decode cX1_addRow 51 = .ok (.ifCond .eq 15, 3) := by decide +kernel
theorem dX1_addRow_54 : decode cX1_addRow 54 = .ok (.aload_n 1, 1) := by decide +kernel
theorem dX1_addRow_55 : decode cX1_addRow 55 = .ok (.getfield 72, 3) := by decide +kernel
theorem dX1_addRow_58 : decode cX1_addRow 58 = .ok (.getfield 107, 3) := by decide +kernel
theorem dX1_addRow_61 : decode cX1_addRow 61 = .ok (.iload_n 2, 1) := by decide +kernel
theorem dX1_addRow_62 : decode cX1_addRow 62 = .ok (.iaload, 1) := by decide +kernel
theorem dX1_addRow_63 : decode cX1_addRow 63 = .ok (.goto 4, 3) := by decide +kernel
theorem dX1_addRow_66 : decode cX1_addRow 66 = .ok (.iconst 0, 1) := by decide +kernel
theorem dX1_addRow_67 : decode cX1_addRow 67 = .ok (.iastore, 1) := by decide +kernel
theorem dX1_addRow_68 : decode cX1_addRow 68 = .ok (.aload_n 0, 1) := by decide +kernel
theorem dX1_addRow_69 : decode cX1_addRow 69 = .ok (.getfield 18, 3) := by decide +kernel
theorem dX1_addRow_72 : decode cX1_addRow 72 = .ok (.aload_n 0, 1) := by decide +kernel
theorem dX1_addRow_73 : decode cX1_addRow 73 = .ok (.getfield 69, 3) := by decide +kernel
theorem dX1_addRow_76 : decode cX1_addRow 76 = .ok (.iload 5, 2) := by decide +kernel
theorem dX1_addRow_78 : decode cX1_addRow 78 = .ok (.ifCond .eq 15, 3) := by decide +kernel
theorem dX1_addRow_81 : decode cX1_addRow 81 = .ok (.aload_n 1, 1) := by decide +kernel
theorem dX1_addRow_82 : decode cX1_addRow 82 = .ok (.getfield 72, 3) := by decide +kernel
theorem dX1_addRow_85 : decode cX1_addRow 85 = .ok (.getfield 108, 3) := by decide +kernel
theorem dX1_addRow_88 : decode cX1_addRow 88 = .ok (.iload_n 2, 1) := by decide +kernel
theorem dX1_addRow_89 : decode cX1_addRow 89 = .ok (.iaload, 1) := by decide +kernel
theorem dX1_addRow_90 : decode cX1_addRow 90 = .ok (.goto 4, 3) := by decide +kernel
theorem dX1_addRow_93 : decode cX1_addRow 93 = .ok (.iconst 0, 1) := by decide +kernel
theorem dX1_addRow_94 : decode cX1_addRow 94 = .ok (.iastore, 1) := by decide +kernel
theorem dX1_addRow_95 : decode cX1_addRow 95 = .ok (.aload_n 0, 1) := by decide +kernel
theorem dX1_addRow_96 : decode cX1_addRow 96 = .ok (.getfield 21, 3) := by decide +kernel
theorem dX1_addRow_99 : decode cX1_addRow 99 = .ok (.aload_n 0, 1) := by decide +kernel
theorem dX1_addRow_100 : decode cX1_addRow 100 = .ok (.getfield 69, 3) := by decide +kernel
theorem dX1_addRow_103 : decode cX1_addRow 103 = .ok (.bipush (-5), 2) := by decide +kernel
theorem dX1_addRow_105 : decode cX1_addRow 105 = .ok (.iastore, 1) := by decide +kernel
theorem dX1_addRow_106 : decode cX1_addRow 106 = .ok (.aload_n 0, 1) := by decide +kernel
theorem dX1_addRow_107 : decode cX1_addRow 107 = .ok (.getfield 24, 3) := by decide +kernel
theorem dX1_addRow_110 : decode cX1_addRow 110 = .ok (.aload_n 0, 1) := by decide +kernel
theorem dX1_addRow_111 : decode cX1_addRow 111 = .ok (.getfield 69, 3) := by decide +kernel
theorem dX1_addRow_114 : decode cX1_addRow 114 = .ok (.ldc 62, 2) := by decide +kernel
theorem dX1_addRow_116 : decode cX1_addRow 116 = .ok (.iastore, 1) := by decide +kernel
theorem dX1_addRow_117 : decode cX1_addRow 117 = .ok (.aload_n 0, 1) := by decide +kernel
theorem dX1_addRow_118 : decode cX1_addRow 118 = .ok (.getfield 27, 3) := by decide +kernel
theorem dX1_addRow_121 : decode cX1_addRow 121 = .ok (.aload_n 0, 1) := by decide +kernel
theorem dX1_addRow_122 : decode cX1_addRow 122 = .ok (.getfield 69, 3) := by decide +kernel
theorem dX1_addRow_125 : decode cX1_addRow 125 = .ok (.aload_n 1, 1) := by decide +kernel
theorem dX1_addRow_126 : decode cX1_addRow 126 = .ok (.getfield 97, 3) := by decide +kernel
theorem dX1_addRow_129 : decode cX1_addRow 129 = .ok (.getfield 109, 3) := by decide +kernel
theorem dX1_addRow_132 : decode cX1_addRow 132 = .ok (.iload_n 3, 1) := by decide +kernel
theorem dX1_addRow_133 : decode cX1_addRow 133 = .ok (.iaload, 1) := by decide +kernel
theorem dX1_addRow_134 : decode cX1_addRow 134 = .ok (.iastore, 1) := by decide +kernel
theorem dX1_addRow_135 : decode cX1_addRow 135 = .ok (.aload_n 0, 1) := by decide +kernel
theorem dX1_addRow_136 : decode cX1_addRow 136 = .ok (.getfield 30, 3) := by decide +kernel
theorem dX1_addRow_139 : decode cX1_addRow 139 = .ok (.aload_n 0, 1) := by decide +kernel
theorem dX1_addRow_140 : decode cX1_addRow 140 = .ok (.getfield 69, 3) := by decide +kernel
theorem dX1_addRow_143 : decode cX1_addRow 143 = .ok (.aload_n 1, 1) := by decide +kernel
theorem dX1_addRow_144 : decode cX1_addRow 144 = .ok (.getfield 97, 3) := by decide +kernel
theorem dX1_addRow_147 : decode cX1_addRow 147 = .ok (.getfield 110, 3) := by decide +kernel
theorem dX1_addRow_150 : decode cX1_addRow 150 = .ok (.iload_n 3, 1) := by decide +kernel
theorem dX1_addRow_151 : decode cX1_addRow 151 = .ok (.iaload, 1) := by decide +kernel
theorem dX1_addRow_152 : decode cX1_addRow 152 = .ok (.iastore, 1) := by decide +kernel
theorem dX1_addRow_153 : decode cX1_addRow 153 = .ok (.aload_n 0, 1) := by decide +kernel
theorem dX1_addRow_154 : decode cX1_addRow 154 = .ok (.getfield 33, 3) := by decide +kernel
theorem dX1_addRow_157 : decode cX1_addRow 157 = .ok (.aload_n 0, 1) := by decide +kernel
theorem dX1_addRow_158 : decode cX1_addRow 158 = .ok (.getfield 69, 3) := by decide +kernel
theorem dX1_addRow_161 : decode cX1_addRow 161 = .ok (.iload 4, 2) := by decide +kernel
theorem dX1_addRow_163 : decode cX1_addRow 163 = .ok (.iastore, 1) := by decide +kernel
theorem dX1_addRow_164 : decode cX1_addRow 164 = .ok (.aload_n 0, 1) := by decide +kernel
theorem dX1_addRow_165 : decode cX1_addRow 165 = .ok (.getfield 36, 3) := by decide +kernel
theorem dX1_addRow_168 : decode cX1_addRow 168 = .ok (.aload_n 0, 1) := by decide +kernel
theorem dX1_addRow_169 : decode cX1_addRow 169 = .ok (.getfield 69, 3) := by decide +kernel
theorem dX1_addRow_172 : decode cX1_addRow 172 = .ok (.iload 4, 2) := by decide +kernel
theorem dX1_addRow_174 : decode cX1_addRow 174 = .ok (.aload_n 1, 1) := by decide +kernel
theorem dX1_addRow_175 : decode cX1_addRow 175 = .ok (.getfield 97, 3) := by decide +kernel
theorem dX1_addRow_178 : decode cX1_addRow 178 = .ok (.getfield 111, 3) := by decide +kernel
theorem dX1_addRow_181 : decode cX1_addRow 181 = .ok (.iload_n 3, 1) := by decide +kernel
theorem dX1_addRow_182 : decode cX1_addRow 182 = .ok (.iaload, 1) := by decide +kernel
theorem dX1_addRow_183 : decode cX1_addRow 183 = .ok (.iadd, 1) := by decide +kernel
theorem dX1_addRow_184 : decode cX1_addRow 184 = .ok (.iconst 1, 1) := by decide +kernel
theorem dX1_addRow_185 : decode cX1_addRow 185 = .ok (.isub, 1) := by decide +kernel
theorem dX1_addRow_186 : decode cX1_addRow 186 = .ok (.iastore, 1) := by decide +kernel
theorem dX1_addRow_187 : decode cX1_addRow 187 = .ok (.aload_n 0, 1) := by decide +kernel
theorem dX1_addRow_188 : decode cX1_addRow 188 = .ok (.dup, 1) := by decide +kernel
theorem dX1_addRow_189 : decode cX1_addRow 189 = .ok (.getfield 69, 3) := by decide +kernel
theorem dX1_addRow_192 : decode cX1_addRow 192 = .ok (.iconst 1, 1) := by decide +kernel
theorem dX1_addRow_193 : decode cX1_addRow 193 = .ok (.iadd, 1) := by decide +kernel
theorem dX1_addRow_194 : decode cX1_addRow 194 = .ok (.putfield 69, 3) := by decide +kernel
theorem dX1_addRow_197 : decode cX1_addRow 197 = .ok (.return_, 1) := by decide +kernel
abbrev rX1_addRow : Room := { frames := 1, cells := 0, slots := 0, locals := 21 }
set_option maxRecDepth 20000 in
theorem gd_X1_addRow_B94 {x : Cx} {y : Cy} (hy : Inj y) (h : OkM x y cX1_addRow RX1 6 none rX1_addRow) (q0 : Nat) (q1 : Nat) (hq0 : q0 < 2) (hq1 : q1 < 7) (a3 : Int32) (a4 : Int32) (s0 : Int32) (s1 : Int32) (M : Mem) : G x y 94 [(0, .ref (y.2.1 (cI q0 0))), (1, .ref (y.2.1 (sI q1 0))), (3, .int a3), (4, .int a4)] [.int s0, .int s1, .ref (y.2.1 (cI q0 3))] M (d_X1_addRow_B94 q0 q1 a3 a4 s0 s1 M) := by
  unfold d_X1_addRow_B94
  refine G_iast (pc := 94) h.1 (ids_c hq0 3 (by decide)) (fun m => eC3 hq0 m) dX1_addRow_94 (fun M7 => ?_)
  refine G_aload_n (pc := 95) h.1 dX1_addRow_95 rfl 0 rfl ?_
  refine G_get (pc := 96) (v := .ref (y.2.1 (cI q0 4))) h.1 fl_X1_21 (ids_c hq0 0 (by decide)) (eC0 hq0 _) rfl dX1_addRow_96 ?_
  refine G_aload_n (pc := 99) h.1 dX1_addRow_99 rfl 0 rfl ?_
  refine G_get (pc := 100) (v := .int (M7 (cI q0 0) 6)) h.1 fl_X1_69 (ids_c hq0 0 (by decide)) (eC0 hq0 _) rfl dX1_addRow_100 ?_
  refine G_bipush (pc := 103) (v := (-5)) h.1 dX1_addRow_103 (by decide) ?_
  refine G_iast (pc := 105) h.1 (ids_c hq0 4 (by decide)) (fun m => eC4 hq0 m) dX1_addRow_105 (fun M8 => ?_)
  refine G_aload_n (pc := 106) h.1 dX1_addRow_106 rfl 0 rfl ?_
  refine G_get (pc := 107) (v := .ref (y.2.1 (cI q0 5))) h.1 fl_X1_24 (ids_c hq0 0 (by decide)) (eC0 hq0 _) rfl dX1_addRow_107 ?_
  refine G_aload_n (pc := 110) h.1 dX1_addRow_110 rfl 0 rfl ?_
  refine G_get (pc := 111) (v := .int (M8 (cI q0 0) 6)) h.1 fl_X1_69 (ids_c hq0 0 (by decide)) (eC0 hq0 _) rfl dX1_addRow_111 ?_
  refine G_ldc (pc := 114) h.1 dX1_addRow_114 ct_X1_62 ?_
  refine G_iast (pc := 116) h.1 (ids_c hq0 5 (by decide)) (fun m => eC5 hq0 m) dX1_addRow_116 (fun M9 => ?_)
  refine G_aload_n (pc := 117) h.1 dX1_addRow_117 rfl 0 rfl ?_
  refine G_get (pc := 118) (v := .ref (y.2.1 (cI q0 6))) h.1 fl_X1_27 (ids_c hq0 0 (by decide)) (eC0 hq0 _) rfl dX1_addRow_118 ?_
  refine G_aload_n (pc := 121) h.1 dX1_addRow_121 rfl 0 rfl ?_
  refine G_get (pc := 122) (v := .int (M9 (cI q0 0) 6)) h.1 fl_X1_69 (ids_c hq0 0 (by decide)) (eC0 hq0 _) rfl dX1_addRow_122 ?_
  refine G_aload_n (pc := 125) h.1 dX1_addRow_125 rfl 1 rfl ?_
  refine G_get (pc := 126) (v := .ref (y.2.1 (sI q1 1))) h.1 fl_X1_97 (ids_s hq1 0 (by decide)) (eS0 hq1 _) rfl dX1_addRow_126 ?_
  refine G_get (pc := 129) (v := .ref (y.2.1 (sI q1 2))) h.1 fl_X1_109 (ids_s hq1 1 (by decide)) (eS1 hq1 _) rfl dX1_addRow_129 ?_
  refine G_iload_n (pc := 132) h.1 dX1_addRow_132 rfl 2 rfl ?_
  refine G_iald (pc := 133) h.1 (ids_s hq1 2 (by decide)) (eS2 hq1 _) dX1_addRow_133 ?_
  refine G_iast (pc := 134) h.1 (ids_c hq0 6 (by decide)) (fun m => eC6 hq0 m) dX1_addRow_134 (fun M10 => ?_)
  refine G_aload_n (pc := 135) h.1 dX1_addRow_135 rfl 0 rfl ?_
  refine G_get (pc := 136) (v := .ref (y.2.1 (cI q0 7))) h.1 fl_X1_30 (ids_c hq0 0 (by decide)) (eC0 hq0 _) rfl dX1_addRow_136 ?_
  refine G_aload_n (pc := 139) h.1 dX1_addRow_139 rfl 0 rfl ?_
  refine G_get (pc := 140) (v := .int (M10 (cI q0 0) 6)) h.1 fl_X1_69 (ids_c hq0 0 (by decide)) (eC0 hq0 _) rfl dX1_addRow_140 ?_
  refine G_aload_n (pc := 143) h.1 dX1_addRow_143 rfl 1 rfl ?_
  refine G_get (pc := 144) (v := .ref (y.2.1 (sI q1 1))) h.1 fl_X1_97 (ids_s hq1 0 (by decide)) (eS0 hq1 _) rfl dX1_addRow_144 ?_
  refine G_get (pc := 147) (v := .ref (y.2.1 (sI q1 3))) h.1 fl_X1_110 (ids_s hq1 1 (by decide)) (eS1 hq1 _) rfl dX1_addRow_147 ?_
  refine G_iload_n (pc := 150) h.1 dX1_addRow_150 rfl 2 rfl ?_
  refine G_iald (pc := 151) h.1 (ids_s hq1 3 (by decide)) (eS3 hq1 _) dX1_addRow_151 ?_
  refine G_iast (pc := 152) h.1 (ids_c hq0 7 (by decide)) (fun m => eC7 hq0 m) dX1_addRow_152 (fun M11 => ?_)
  refine G_aload_n (pc := 153) h.1 dX1_addRow_153 rfl 0 rfl ?_
  refine G_get (pc := 154) (v := .ref (y.2.1 (cI q0 8))) h.1 fl_X1_33 (ids_c hq0 0 (by decide)) (eC0 hq0 _) rfl dX1_addRow_154 ?_
  refine G_aload_n (pc := 157) h.1 dX1_addRow_157 rfl 0 rfl ?_
  refine G_get (pc := 158) (v := .int (M11 (cI q0 0) 6)) h.1 fl_X1_69 (ids_c hq0 0 (by decide)) (eC0 hq0 _) rfl dX1_addRow_158 ?_
  refine G_iload (pc := 161) h.1 dX1_addRow_161 3 rfl ?_
  refine G_iast (pc := 163) h.1 (ids_c hq0 8 (by decide)) (fun m => eC8 hq0 m) dX1_addRow_163 (fun M12 => ?_)
  refine G_aload_n (pc := 164) h.1 dX1_addRow_164 rfl 0 rfl ?_
  refine G_get (pc := 165) (v := .ref (y.2.1 (cI q0 9))) h.1 fl_X1_36 (ids_c hq0 0 (by decide)) (eC0 hq0 _) rfl dX1_addRow_165 ?_
  refine G_aload_n (pc := 168) h.1 dX1_addRow_168 rfl 0 rfl ?_
  refine G_get (pc := 169) (v := .int (M12 (cI q0 0) 6)) h.1 fl_X1_69 (ids_c hq0 0 (by decide)) (eC0 hq0 _) rfl dX1_addRow_169 ?_
  refine G_iload (pc := 172) h.1 dX1_addRow_172 3 rfl ?_
  refine G_aload_n (pc := 174) h.1 dX1_addRow_174 rfl 1 rfl ?_
  refine G_get (pc := 175) (v := .ref (y.2.1 (sI q1 1))) h.1 fl_X1_97 (ids_s hq1 0 (by decide)) (eS0 hq1 _) rfl dX1_addRow_175 ?_
  refine G_get (pc := 178) (v := .ref (y.2.1 (sI q1 4))) h.1 fl_X1_111 (ids_s hq1 1 (by decide)) (eS1 hq1 _) rfl dX1_addRow_178 ?_
  refine G_iload_n (pc := 181) h.1 dX1_addRow_181 rfl 2 rfl ?_
  refine G_iald (pc := 182) h.1 (ids_s hq1 4 (by decide)) (eS4 hq1 _) dX1_addRow_182 ?_
  refine G_iadd (pc := 183) h.1 dX1_addRow_183 ?_
  refine G_iconst (pc := 184) (v := (1)) h.1 dX1_addRow_184 (by decide) ?_
  refine G_isub (pc := 185) h.1 dX1_addRow_185 ?_
  refine G_iast (pc := 186) h.1 (ids_c hq0 9 (by decide)) (fun m => eC9 hq0 m) dX1_addRow_186 (fun M13 => ?_)
  refine G_aload_n (pc := 187) h.1 dX1_addRow_187 rfl 0 rfl ?_
  refine G_dup (pc := 188) h.1 dX1_addRow_188 rfl ?_
  refine G_get (pc := 189) (v := .int (M13 (cI q0 0) 6)) h.1 fl_X1_69 (ids_c hq0 0 (by decide)) (eC0 hq0 _) rfl dX1_addRow_189 ?_
  refine G_iconst (pc := 192) (v := (1)) h.1 dX1_addRow_192 (by decide) ?_
  refine G_iadd (pc := 193) h.1 dX1_addRow_193 ?_
  refine G_put (pc := 194) h.1 fp_X1_69 (ids_c hq0 0 (by decide)) (fun m => eC0 hq0 m) (fun _ => rfl) (fun _ => Nat.le_of_ble_eq_true rfl) rfl rfl dX1_addRow_194 (fun M14 => ?_)
  exact G_vret (pc := 197) h dX1_addRow_197
set_option maxRecDepth 20000 in
theorem gd_X1_addRow_B67 {x : Cx} {y : Cy} (hy : Inj y) (h : OkM x y cX1_addRow RX1 6 none rX1_addRow) (q0 : Nat) (q1 : Nat) (hq0 : q0 < 2) (hq1 : q1 < 7) (a2 : Int32) (a3 : Int32) (a4 : Int32) (a5 : Int32) (s0 : Int32) (s1 : Int32) (M : Mem) : G x y 67 [(0, .ref (y.2.1 (cI q0 0))), (1, .ref (y.2.1 (sI q1 0))), (2, .int a2), (3, .int a3), (4, .int a4), (5, .int a5)] [.int s0, .int s1, .ref (y.2.1 (cI q0 2))] M (d_X1_addRow_B67 q0 q1 a2 a3 a4 a5 s0 s1 M) := by
  unfold d_X1_addRow_B67
  refine G_iast (pc := 67) h.1 (ids_c hq0 2 (by decide)) (fun m => eC2 hq0 m) dX1_addRow_67 (fun M6 => ?_)
  refine G_aload_n (pc := 68) h.1 dX1_addRow_68 rfl 0 rfl ?_
  refine G_get (pc := 69) (v := .ref (y.2.1 (cI q0 3))) h.1 fl_X1_18 (ids_c hq0 0 (by decide)) (eC0 hq0 _) rfl dX1_addRow_69 ?_
  refine G_aload_n (pc := 72) h.1 dX1_addRow_72 rfl 0 rfl ?_
  refine G_get (pc := 73) (v := .int (M6 (cI q0 0) 6)) h.1 fl_X1_69 (ids_c hq0 0 (by decide)) (eC0 hq0 _) rfl dX1_addRow_73 ?_
  refine G_iload (pc := 76) h.1 dX1_addRow_76 5 rfl ?_
  refine G_if_eq (pc := 78) (tgt := 93) h.1 dX1_addRow_78 (by decide) ?_ ?_
  · refine G_iconst (pc := 93) (v := (0)) h.1 dX1_addRow_93 (by decide) ?_
    exact G_sub [0, 1, 3, 4] rfl (gd_X1_addRow_B94 hy h q0 q1 hq0 hq1 a3 a4 (0 : Int32) (M6 (cI q0 0) 6) M6)
  · refine G_aload_n (pc := 81) h.1 dX1_addRow_81 rfl 1 rfl ?_
    refine G_get (pc := 82) (v := .ref (y.2.1 (sI q1 6))) h.1 fl_X1_72 (ids_s hq1 0 (by decide)) (eS0 hq1 _) rfl dX1_addRow_82 ?_
    refine G_get (pc := 85) (v := .ref (y.2.1 (sI q1 11))) h.1 fl_X1_108 (ids_s hq1 6 (by decide)) (eS6 hq1 _) rfl dX1_addRow_85 ?_
    refine G_iload_n (pc := 88) h.1 dX1_addRow_88 rfl 2 rfl ?_
    refine G_iald (pc := 89) h.1 (ids_s hq1 11 (by decide)) (eS11 hq1 _) dX1_addRow_89 ?_
    refine G_goto (pc := 90) (tgt := 94) h.1 dX1_addRow_90 (by decide) ?_
    exact G_sub [0, 1, 3, 4] rfl (gd_X1_addRow_B94 hy h q0 q1 hq0 hq1 a3 a4 (M6 (sI q1 11) (a2).toNatClampNeg) (M6 (cI q0 0) 6) M6)
set_option maxRecDepth 20000 in
theorem c_X1_addRow (l : Launch) (y : Cy) (hy : Inj y) (q0 : Nat) (q1 : Nat) (hq0 : q0 < 2) (hq1 : q1 < 7) (p2 : Int32) (p3 : Int32) (p4 : Int32) (M : Mem) : CT l y yX1_addRow cX1_addRow 6 none rX1_addRow [.ref (y.2.1 (cI q0 0)), .ref (y.2.1 (sI q1 0)), .int p2, .int p3, .int p4] M (d_X1_addRow q0 q1 p2 p3 p4 M) := by
  refine CT_of (by decide) hy (Nat.le_of_ble_eq_true rfl) (fun x hxl h => ?_)
  show G x y 0 [(0, .ref (y.2.1 (cI q0 0))), (1, .ref (y.2.1 (sI q1 0))), (2, .int p2), (3, .int p3), (4, .int p4)] [] M _
  unfold d_X1_addRow
  refine G_aload_n (pc := 0) h.1 dX1_addRow_0 rfl 0 rfl ?_
  refine G_get (pc := 1) (v := .int (M (cI q0 0) 6)) h.1 fl_X1_69 (ids_c hq0 0 (by decide)) (eC0 hq0 _) rfl dX1_addRow_1 ?_
  refine G_bipush (pc := 4) (v := (61)) h.1 dX1_addRow_4 (by decide) ?_
  refine G_icmp_ge (pc := 6) (tgt := 20) h.1 dX1_addRow_6 (by decide) ?_ ?_
  · exact G_vret (pc := 20) h dX1_addRow_20
  · refine G_aload_n (pc := 9) h.1 dX1_addRow_9 rfl 1 rfl ?_
    refine G_get (pc := 10) (v := .ref (y.2.1 (sI q1 1))) h.1 fl_X1_97 (ids_s hq1 0 (by decide)) (eS0 hq1 _) rfl dX1_addRow_10 ?_
    refine G_iload_n (pc := 13) h.1 dX1_addRow_13 rfl 3 rfl ?_
    refine G_callV (pc := 14) (As := [.int p3]) (rest := []) h.1 h.2.2.1 lk_X1_101 (ids_s hq1 1 (by decide)) (eS1 hq1 _) rfl rfl (c_X4_has x.1.2.1 y hy q1 hq1 p3 M) rfl rfl (Nat.le_of_ble_eq_true rfl) ⟨rfl, rfl, Nat.le_of_ble_eq_true rfl, Nat.le_of_ble_eq_true rfl⟩ dX1_addRow_14 (fun r2 M1 => ?_)
    refine G_if_ne (pc := 17) (tgt := 21) h.1 dX1_addRow_17 (by decide) ?_ ?_
    · refine G_aload_n (pc := 21) h.1 dX1_addRow_21 rfl 1 rfl ?_
      refine G_get (pc := 22) (v := .ref (y.2.1 (sI q1 6))) h.1 fl_X1_72 (ids_s hq1 0 (by decide)) (eS0 hq1 _) rfl dX1_addRow_22 ?_
      refine G_iload_n (pc := 25) h.1 dX1_addRow_25 rfl 2 rfl ?_
      refine G_callV (pc := 26) (As := [.int p2]) (rest := []) h.1 h.2.2.1 lk_X1_106 (ids_s hq1 6 (by decide)) (eS6 hq1 _) rfl rfl (c_X0_has x.1.2.1 y hy q1 hq1 p2 M1) rfl rfl (Nat.le_of_ble_eq_true rfl) ⟨rfl, rfl, Nat.le_of_ble_eq_true rfl, Nat.le_of_ble_eq_true rfl⟩ dX1_addRow_26 (fun r4 M3 => ?_)
      refine G_istore (pc := 29) h.1 h.2.1 [(5, .int r4), (0, .ref (y.2.1 (cI q0 0))), (1, .ref (y.2.1 (sI q1 0))), (2, .int p2), (3, .int p3), (4, .int p4)] dX1_addRow_29 (by decide) rfl ?_
      refine G_aload_n (pc := 31) h.1 dX1_addRow_31 rfl 1 rfl ?_
      refine G_get (pc := 32) (v := .ref (y.2.1 (cI q0 1))) h.1 fl_X1_11 (ids_c hq0 0 (by decide)) (eC0 hq0 _) rfl dX1_addRow_32 ?_
      refine G_aload_n (pc := 35) h.1 dX1_addRow_35 rfl 1 rfl ?_
      refine G_get (pc := 36) (v := .int (M3 (cI q0 0) 6)) h.1 fl_X1_69 (ids_c hq0 0 (by decide)) (eC0 hq0 _) rfl dX1_addRow_36 ?_
      refine G_iload_n (pc := 39) h.1 dX1_addRow_39 rfl 3 rfl ?_
      refine G_iast (pc := 40) h.1 (ids_c hq0 1 (by decide)) (fun m => eC1 hq0 m) dX1_addRow_40 (fun M5 => ?_)
      refine G_aload_n (pc := 41) h.1 dX1_addRow_41 rfl 1 rfl ?_
      refine G_get (pc := 42) (v := .ref (y.2.1 (cI q0 2))) h.1 fl_X1_15 (ids_c hq0 0 (by decide)) (eC0 hq0 _) rfl dX1_addRow_42 ?_
      refine G_aload_n (pc := 45) h.1 dX1_addRow_45 rfl 1 rfl ?_
      refine G_get (pc := 46) (v := .int (M5 (cI q0 0) 6)) h.1 fl_X1_69 (ids_c hq0 0 (by decide)) (eC0 hq0 _) rfl dX1_addRow_46 ?_
      refine G_iload (pc := 49) h.1 dX1_addRow_49 0 rfl ?_
      refine G_if_eq (pc := 51) (tgt := 66) h.1 dX1_addRow_51 (by decide) ?_ ?_
      · refine G_iconst (pc := 66) (v := (0)) h.1 dX1_addRow_66 (by decide) ?_
        exact G_sub [1, 2, 3, 4, 5, 0] rfl (gd_X1_addRow_B67 hy h q0 q1 hq0 hq1 p2 p3 p4 r4 (0 : Int32) (M5 (cI q0 0) 6) M5)
      · refine G_aload_n (pc := 54) h.1 dX1_addRow_54 rfl 2 rfl ?_
        refine G_get (pc := 55) (v := .ref (y.2.1 (sI q1 6))) h.1 fl_X1_72 (ids_s hq1 0 (by decide)) (eS0 hq1 _) rfl dX1_addRow_55 ?_
        refine G_get (pc := 58) (v := .ref (y.2.1 (sI q1 10))) h.1 fl_X1_107 (ids_s hq1 6 (by decide)) (eS6 hq1 _) rfl dX1_addRow_58 ?_
        refine G_iload_n (pc := 61) h.1 dX1_addRow_61 rfl 3 rfl ?_
        refine G_iald (pc := 62) h.1 (ids_s hq1 10 (by decide)) (eS10 hq1 _) dX1_addRow_62 ?_
        refine G_goto (pc := 63) (tgt := 67) h.1 dX1_addRow_63 (by decide) ?_
        exact G_sub [1, 2, 3, 4, 5, 0] rfl (gd_X1_addRow_B67 hy h q0 q1 hq0 hq1 p2 p3 p4 r4 (M5 (sI q1 10) (p2).toNatClampNeg) (M5 (cI q0 0) 6) M5)
    · exact G_vret (pc := 20) h dX1_addRow_20
theorem dX1_beginWith_0 : decode cX1_beginWith 0 = .ok (.aload_n 0, 1) := by decide +kernel
theorem dX1_beginWith_1 : decode cX1_beginWith 1 = .ok (.aload_n 1, 1) := by decide +kernel
theorem dX1_beginWith_2 : decode cX1_beginWith 2 = .ok (.getfield 43, 3) := by decide +kernel
theorem dX1_beginWith_5 : decode cX1_beginWith 5 = .ok (.putfield 49, 3) := by decide +kernel
theorem dX1_beginWith_8 : decode cX1_beginWith 8 = .ok (.aload_n 0, 1) := by decide +kernel
theorem dX1_beginWith_9 : decode cX1_beginWith 9 = .ok (.aload_n 1, 1) := by decide +kernel
theorem dX1_beginWith_10 : decode cX1_beginWith 10 = .ok (.getfield 50, 3) := by decide +kernel
theorem dX1_beginWith_13 : decode cX1_beginWith 13 = .ok (.putfield 53, 3) := by decide +kernel
theorem dX1_beginWith_16 : decode cX1_beginWith 16 = .ok (.aload_n 0, 1) := by decide +kernel
theorem dX1_beginWith_17 : decode cX1_beginWith 17 = .ok (.aload_n 1, 1) := by decide +kernel
theorem dX1_beginWith_18 : decode cX1_beginWith 18 = .ok (.getfield 54, 3) := by decide +kernel
theorem dX1_beginWith_21 : decode cX1_beginWith 21 = .ok (.putfield 57, 3) := by decide +kernel
theorem dX1_beginWith_24 : decode cX1_beginWith 24 = .ok (.aload_n 0, 1) := by decide +kernel
theorem dX1_beginWith_25 : decode cX1_beginWith 25 = .ok (.aload_n 1, 1) := by decide +kernel
theorem dX1_beginWith_26 : decode cX1_beginWith 26 = .ok (.getfield 58, 3) := by decide +kernel
theorem dX1_beginWith_29 : decode cX1_beginWith 29 = .ok (.putfield 61, 3) := by decide +kernel
theorem dX1_beginWith_32 : decode cX1_beginWith 32 = .ok (.aload_n 0, 1) := by decide +kernel
theorem dX1_beginWith_33 : decode cX1_beginWith 33 = .ok (.ldc 62, 2) := by decide +kernel
theorem dX1_beginWith_35 : decode cX1_beginWith 35 = .ok (.putfield 63, 3) := by decide +kernel
theorem dX1_beginWith_38 : decode cX1_beginWith 38 = .ok (.aload_n 0, 1) := by decide +kernel
theorem dX1_beginWith_39 : decode cX1_beginWith 39 = .ok (.iconst 0, 1) := by decide +kernel
theorem dX1_beginWith_40 : decode cX1_beginWith 40 = .ok (.putfield 66, 3) := by decide +kernel
theorem dX1_beginWith_43 : decode cX1_beginWith 43 = .ok (.aload_n 0, 1) := by decide +kernel
theorem dX1_beginWith_44 : decode cX1_beginWith 44 = .ok (.iconst 0, 1) := by decide +kernel
theorem dX1_beginWith_45 : decode cX1_beginWith 45 = .ok (.putfield 69, 3) := by decide +kernel
theorem dX1_beginWith_48 : decode cX1_beginWith 48 = .ok (.iconst 0, 1) := by decide +kernel
theorem dX1_beginWith_49 : decode cX1_beginWith 49 = .ok (.istore 5, 2) := by decide +kernel
theorem dX1_beginWith_51 : decode cX1_beginWith 51 = .ok (.iload 5, 2) := by decide +kernel
theorem dX1_beginWith_53 : decode cX1_beginWith 53 = .ok (.aload_n 1, 1) := by decide +kernel
theorem dX1_beginWith_54 : decode cX1_beginWith 54 = .ok (.getfield 72, 3) := by decide +kernel
theorem dX1_beginWith_57 : decode cX1_beginWith 57 = .ok (.getfield 76, 3) := by decide +kernel
theorem dX1_beginWith_60 : decode cX1_beginWith 60 = .ok (.if_icmp .ge 78, 3) := by decide +kernel
theorem dX1_beginWith_63 : decode cX1_beginWith 63 = .ok (.iload 5, 2) := by decide +kernel
theorem dX1_beginWith_65 : decode cX1_beginWith 65 = .ok (.iload_n 2, 1) := by decide +kernel
theorem dX1_beginWith_66 : decode cX1_beginWith 66 = .ok (.if_icmp .eq 45, 3) := by decide +kernel
theorem dX1_beginWith_69 : decode cX1_beginWith 69 = .ok (.aload_n 1, 1) := by decide +kernel
theorem dX1_beginWith_70 : decode cX1_beginWith 70 = .ok (.getfield 72, 3) := by decide +kernel
theorem dX1_beginWith_73 : decode cX1_beginWith 73 = .ok (.iload 5, 2) := by decide +kernel
theorem dX1_beginWith_75 : decode cX1_beginWith 75 = .ok (.invokevirtual 81, 3) := by decide +kernel
theorem dX1_beginWith_78 : decode cX1_beginWith 78 = .ok (.ifCond .eq 33, 3) := by decide +kernel
theorem dX1_beginWith_81 : decode cX1_beginWith 81 = .ok (.aload_n 0, 1) := by decide +kernel
theorem dX1_beginWith_82 : decode cX1_beginWith 82 = .ok (.aload_n 1, 1) := by decide +kernel
theorem dX1_beginWith_83 : decode cX1_beginWith 83 = .ok (.iload 5, 2) := by decide +kernel
theorem dX1_beginWith_85 : decode cX1_beginWith 85 = .ok (.aload_n 1, 1) := by decide +kernel
theorem dX1_beginWith_86 : decode cX1_beginWith 86 = .ok (.getfield 72, 3) := by decide +kernel
theorem dX1_beginWith_89 : decode cX1_beginWith 89 = .ok (.getfield 85, 3) := by decide +kernel
theorem dX1_beginWith_92 : decode cX1_beginWith 92 = .ok (.iload 5, 2) := by decide +kernel
theorem dX1_beginWith_94 : decode cX1_beginWith 94 = .ok (.iaload, 1) := by decide +kernel
theorem dX1_beginWith_95 : decode cX1_beginWith 95 = .ok (.aload_n 1, 1) := by decide +kernel
theorem dX1_beginWith_96 : decode cX1_beginWith 96 = .ok (.getfield 72, 3) := by decide +kernel
theorem dX1_beginWith_99 : decode cX1_beginWith 99 = .ok (.getfield 88, 3) := by decide +kernel
theorem dX1_beginWith_102 : decode cX1_beginWith 102 = .ok (.iload 5, 2) := by decide +kernel
theorem dX1_beginWith_104 : decode cX1_beginWith 104 = .ok (.iaload, 1) := by decide +kernel
theorem dX1_beginWith_105 : decode cX1_beginWith 105 = .ok (.invokevirtual 91, 3) := by decide +kernel
theorem dX1_beginWith_108 : decode cX1_beginWith 108 = .ok (.goto 24, 3) := by decide +kernel
theorem dX1_beginWith_111 : decode cX1_beginWith 111 = .ok (.iload 5, 2) := by decide +kernel
theorem dX1_beginWith_113 : decode cX1_beginWith 113 = .ok (.iload_n 2, 1) := by decide +kernel
theorem dX1_beginWith_114 : decode cX1_beginWith 114 = .ok (.if_icmp .ne 18, 3) := by decide +kernel
theorem dX1_beginWith_117 : decode cX1_beginWith 117 = .ok (.iload 4, 2) := by decide +kernel
theorem dX1_beginWith_119 : decode cX1_beginWith 119 = .ok (.iconst (-1), 1) := by decide +kernel
theorem dX1_beginWith_120 : decode cX1_beginWith 120 = .ok (.if_icmp .eq 12, 3) := by decide +kernel
theorem dX1_beginWith_123 : decode cX1_beginWith 123 = .ok (.aload_n 0, 1) := by decide +kernel
theorem dX1_beginWith_124 : decode cX1_beginWith 124 = .ok (.aload_n 1, 1) := by decide +kernel
theorem dX1_beginWith_125 : decode cX1_beginWith 125 = .ok (.iload_n 2, 1) := by decide +kernel
theorem dX1_beginWith_126 : decode cX1_beginWith 126 = .ok (.iload_n 3, 1) := by decide +kernel
theorem dX1_beginWith_127 : decode cX1_beginWith 127 = .ok (.iload 4, 2) := by decide +kernel
theorem dX1_beginWith_129 : decode cX1_beginWith 129 = .ok (.invokevirtual 91, 3) := by decide +kernel
theorem dX1_beginWith_132 : decode cX1_beginWith 132 = .ok (.iinc 5 1, 3) := by decide +kernel
theorem dX1_beginWith_135 : decode cX1_beginWith 135 = .ok (.goto (-84), 3) := by decide +kernel
theorem dX1_beginWith_138 : decode cX1_beginWith 138 = .ok (.iload_n 2, 1) := by decide +kernel
theorem dX1_beginWith_139 : decode cX1_beginWith 139 = .ok (.aload_n 1, 1) := by decide +kernel
theorem dX1_beginWith_140 : decode cX1_beginWith 140 = .ok (.getfield 72, 3) := by decide +kernel
theorem dX1_beginWith_143 : decode cX1_beginWith 143 = .ok (.getfield 76, 3) := by decide +kernel
theorem dX1_beginWith_146 : decode cX1_beginWith 146 = .ok (.if_icmp .lt 18, 3) := by decide +kernel
theorem dX1_beginWith_149 : decode cX1_beginWith 149 = .ok (.iload 4, 2) := by decide +kernel
theorem dX1_beginWith_151 : decode cX1_beginWith 151 = .ok (.iconst (-1), 1) := by decide +kernel
theorem dX1_beginWith_152 : decode cX1_beginWith 152 = .ok (.if_icmp .eq 12, 3) := by decide +kernel
theorem dX1_beginWith_155 : decode cX1_beginWith 155 = .ok (.aload_n 0, 1) := by decide +kernel
theorem dX1_beginWith_156 : decode cX1_beginWith 156 = .ok (.aload_n 1, 1) := by decide +kernel
theorem dX1_beginWith_157 : decode cX1_beginWith 157 = .ok (.iload_n 2, 1) := by decide +kernel
theorem dX1_beginWith_158 : decode cX1_beginWith 158 = .ok (.iload_n 3, 1) := by decide +kernel
theorem dX1_beginWith_159 : decode cX1_beginWith 159 = .ok (.iload 4, 2) := by decide +kernel
theorem dX1_beginWith_161 : decode cX1_beginWith 161 = .ok (.invokevirtual 91, 3) := by decide +kernel
theorem dX1_beginWith_164 : decode cX1_beginWith 164 = .ok (.aload_n 0, 1) := by decide +kernel
theorem dX1_beginWith_165 : decode cX1_beginWith 165 = .ok (.aload_n 0, 1) := by decide +kernel
theorem dX1_beginWith_166 : decode cX1_beginWith 166 = .ok (.getfield 69, 3) := by decide +kernel
theorem dX1_beginWith_169 : decode cX1_beginWith 169 = .ok (.putfield 94, 3) := by decide +kernel
theorem dX1_beginWith_172 : decode cX1_beginWith 172 = .ok (.return_, 1) := by decide +kernel
abbrev rX1_beginWith : Room := { frames := 2, cells := 0, slots := 0, locals := 46 }
set_option maxRecDepth 20000 in
theorem gd_X1_beginWith_B132 {x : Cx} {y : Cy} (hy : Inj y) (h : OkM x y cX1_beginWith RX1 6 none rX1_beginWith) (q0 : Nat) (q1 : Nat) (hq0 : q0 < 2) (hq1 : q1 < 7) (kx1 : Mem → Ans) (kb : Int32 → Mem → Ans) (a2 : Int32) (a3 : Int32) (a4 : Int32) (a5 : Int32) (hx1 : ∀ M0 : Mem, G x y 138 [(0, .ref (y.2.1 (cI q0 0))), (1, .ref (y.2.1 (sI q1 0))), (2, .int a2), (3, .int a3), (4, .int a4)] [] M0 (kx1 M0)) (hb : ∀ (b5 : Int32), ∀ M0 : Mem, G x y 51 [(0, .ref (y.2.1 (cI q0 0))), (1, .ref (y.2.1 (sI q1 0))), (2, .int a2), (3, .int a3), (4, .int a4), (5, .int b5)] [] M0 (kb b5 M0)) (M : Mem) : G x y 132 [(0, .ref (y.2.1 (cI q0 0))), (1, .ref (y.2.1 (sI q1 0))), (2, .int a2), (3, .int a3), (4, .int a4), (5, .int a5)] [] M (d_X1_beginWith_B132 q0 q1 kx1 kb a2 a3 a4 a5 M) := by
  unfold d_X1_beginWith_B132
  refine G_iinc (pc := 132) (v := a5 + (1)) h.1 h.2.1 (fun v8 => [(5, .int v8), (0, .ref (y.2.1 (cI q0 0))), (1, .ref (y.2.1 (sI q1 0))), (2, .int a2), (3, .int a3), (4, .int a4)]) dX1_beginWith_132 (by decide) 5 rfl rfl (fun _ => rfl) (fun v8 => ?_)
  refine G_goto (pc := 135) (tgt := 51) h.1 dX1_beginWith_135 (by decide) ?_
  exact G_sub [1, 2, 3, 4, 5, 0] rfl (hb v8 M)
set_option maxRecDepth 20000 in
theorem gd_X1_beginWith_B111 {x : Cx} {y : Cy} (hy : Inj y) (h : OkM x y cX1_beginWith RX1 6 none rX1_beginWith) (q0 : Nat) (q1 : Nat) (hq0 : q0 < 2) (hq1 : q1 < 7) (kx1 : Mem → Ans) (kb : Int32 → Mem → Ans) (a2 : Int32) (a3 : Int32) (a4 : Int32) (a5 : Int32) (hx1 : ∀ M0 : Mem, G x y 138 [(0, .ref (y.2.1 (cI q0 0))), (1, .ref (y.2.1 (sI q1 0))), (2, .int a2), (3, .int a3), (4, .int a4)] [] M0 (kx1 M0)) (hb : ∀ (b5 : Int32), ∀ M0 : Mem, G x y 51 [(0, .ref (y.2.1 (cI q0 0))), (1, .ref (y.2.1 (sI q1 0))), (2, .int a2), (3, .int a3), (4, .int a4), (5, .int b5)] [] M0 (kb b5 M0)) (M : Mem) : G x y 111 [(0, .ref (y.2.1 (cI q0 0))), (1, .ref (y.2.1 (sI q1 0))), (2, .int a2), (3, .int a3), (4, .int a4), (5, .int a5)] [] M (d_X1_beginWith_B111 q0 q1 kx1 kb a2 a3 a4 a5 M) := by
  unfold d_X1_beginWith_B111
  refine G_iload (pc := 111) h.1 dX1_beginWith_111 5 rfl ?_
  refine G_iload_n (pc := 113) h.1 dX1_beginWith_113 rfl 2 rfl ?_
  refine G_icmp_ne (pc := 114) (tgt := 132) h.1 dX1_beginWith_114 (by decide) ?_ ?_
  · exact G_sub [0, 1, 2, 3, 4, 5] rfl (gd_X1_beginWith_B132 hy h q0 q1 hq0 hq1 kx1 kb a2 a3 a4 a5 hx1 hb M)
  · refine G_iload (pc := 117) h.1 dX1_beginWith_117 4 rfl ?_
    refine G_iconst (pc := 119) (v := (-1)) h.1 dX1_beginWith_119 (by decide) ?_
    refine G_icmp_eq (pc := 120) (tgt := 132) h.1 dX1_beginWith_120 (by decide) ?_ ?_
    · exact G_sub [0, 1, 2, 3, 4, 5] rfl (gd_X1_beginWith_B132 hy h q0 q1 hq0 hq1 kx1 kb a2 a3 a4 a5 hx1 hb M)
    · refine G_aload_n (pc := 123) h.1 dX1_beginWith_123 rfl 0 rfl ?_
      refine G_aload_n (pc := 124) h.1 dX1_beginWith_124 rfl 1 rfl ?_
      refine G_iload_n (pc := 125) h.1 dX1_beginWith_125 rfl 2 rfl ?_
      refine G_iload_n (pc := 126) h.1 dX1_beginWith_126 rfl 3 rfl ?_
      refine G_iload (pc := 127) h.1 dX1_beginWith_127 4 rfl ?_
      refine G_callVv (pc := 129) (As := [.ref (y.2.1 (sI q1 0)), .int a2, .int a3, .int a4]) (rest := []) h.1 h.2.2.1 lk_X1_91 (ids_c hq0 0 (by decide)) (eC0 hq0 _) rfl rfl (c_X1_addRow x.1.2.1 y hy q0 q1 hq0 hq1 a2 a3 a4 M) rfl rfl (Nat.le_of_ble_eq_true rfl) ⟨rfl, rfl, Nat.le_of_ble_eq_true rfl, Nat.le_of_ble_eq_true rfl⟩ dX1_beginWith_129 (fun r10 M9 => ?_)
      exact G_sub [0, 1, 2, 3, 4, 5] rfl (gd_X1_beginWith_B132 hy h q0 q1 hq0 hq1 kx1 kb a2 a3 a4 a5 hx1 hb M9)
set_option maxRecDepth 20000 in
theorem gd_X1_beginWith_L51_body {x : Cx} {y : Cy} (hy : Inj y) (h : OkM x y cX1_beginWith RX1 6 none rX1_beginWith) (q0 : Nat) (q1 : Nat) (hq0 : q0 < 2) (hq1 : q1 < 7) (a2 : Int32) (a3 : Int32) (a4 : Int32) (kx1 : Mem → Ans) (hx1 : ∀ M0 : Mem, G x y 138 [(0, .ref (y.2.1 (cI q0 0))), (1, .ref (y.2.1 (sI q1 0))), (2, .int a2), (3, .int a3), (4, .int a4)] [] M0 (kx1 M0)) (kb : Int32 → Mem → Ans) (hb : ∀ (b5 : Int32), ∀ M0 : Mem, G x y 51 [(0, .ref (y.2.1 (cI q0 0))), (1, .ref (y.2.1 (sI q1 0))), (2, .int a2), (3, .int a3), (4, .int a4), (5, .int b5)] [] M0 (kb b5 M0)) (a5 : Int32) (M : Mem) : G x y 51 [(0, .ref (y.2.1 (cI q0 0))), (1, .ref (y.2.1 (sI q1 0))), (2, .int a2), (3, .int a3), (4, .int a4), (5, .int a5)] [] M (d_X1_beginWith_L51_body q0 q1 a2 a3 a4 kx1 kb a5 M) := by
  unfold d_X1_beginWith_L51_body
  refine G_iload (pc := 51) h.1 dX1_beginWith_51 5 rfl ?_
  refine G_aload_n (pc := 53) h.1 dX1_beginWith_53 rfl 1 rfl ?_
  refine G_get (pc := 54) (v := .ref (y.2.1 (sI q1 6))) h.1 fl_X1_72 (ids_s hq1 0 (by decide)) (eS0 hq1 _) rfl dX1_beginWith_54 ?_
  refine G_get (pc := 57) (v := .int (M (sI q1 6) 0)) h.1 fl_X1_76 (ids_s hq1 6 (by decide)) (eS6 hq1 _) rfl dX1_beginWith_57 ?_
  refine G_icmp_ge (pc := 60) (tgt := 138) h.1 dX1_beginWith_60 (by decide) ?_ ?_
  · exact G_sub [0, 1, 2, 3, 4] rfl (hx1 M)
  · refine G_iload (pc := 63) h.1 dX1_beginWith_63 5 rfl ?_
    refine G_iload_n (pc := 65) h.1 dX1_beginWith_65 rfl 2 rfl ?_
    refine G_icmp_eq (pc := 66) (tgt := 111) h.1 dX1_beginWith_66 (by decide) ?_ ?_
    · exact G_sub [0, 1, 2, 3, 4, 5] rfl (gd_X1_beginWith_B111 hy h q0 q1 hq0 hq1 kx1 kb a2 a3 a4 a5 hx1 hb M)
    · refine G_aload_n (pc := 69) h.1 dX1_beginWith_69 rfl 1 rfl ?_
      refine G_get (pc := 70) (v := .ref (y.2.1 (sI q1 6))) h.1 fl_X1_72 (ids_s hq1 0 (by decide)) (eS0 hq1 _) rfl dX1_beginWith_70 ?_
      refine G_iload (pc := 73) h.1 dX1_beginWith_73 5 rfl ?_
      refine G_callV (pc := 75) (As := [.int a5]) (rest := []) h.1 h.2.2.1 lk_X1_81 (ids_s hq1 6 (by decide)) (eS6 hq1 _) rfl rfl (c_X0_isOpen x.1.2.1 y hy q1 hq1 a5 M) rfl rfl (Nat.le_of_ble_eq_true rfl) ⟨rfl, rfl, Nat.le_of_ble_eq_true rfl, Nat.le_of_ble_eq_true rfl⟩ dX1_beginWith_75 (fun r12 M11 => ?_)
      refine G_if_eq (pc := 78) (tgt := 111) h.1 dX1_beginWith_78 (by decide) ?_ ?_
      · exact G_sub [0, 1, 2, 3, 4, 5] rfl (gd_X1_beginWith_B111 hy h q0 q1 hq0 hq1 kx1 kb a2 a3 a4 a5 hx1 hb M11)
      · refine G_aload_n (pc := 81) h.1 dX1_beginWith_81 rfl 0 rfl ?_
        refine G_aload_n (pc := 82) h.1 dX1_beginWith_82 rfl 1 rfl ?_
        refine G_iload (pc := 83) h.1 dX1_beginWith_83 5 rfl ?_
        refine G_aload_n (pc := 85) h.1 dX1_beginWith_85 rfl 1 rfl ?_
        refine G_get (pc := 86) (v := .ref (y.2.1 (sI q1 6))) h.1 fl_X1_72 (ids_s hq1 0 (by decide)) (eS0 hq1 _) rfl dX1_beginWith_86 ?_
        refine G_get (pc := 89) (v := .ref (y.2.1 (sI q1 8))) h.1 fl_X1_85 (ids_s hq1 6 (by decide)) (eS6 hq1 _) rfl dX1_beginWith_89 ?_
        refine G_iload (pc := 92) h.1 dX1_beginWith_92 5 rfl ?_
        refine G_iald (pc := 94) h.1 (ids_s hq1 8 (by decide)) (eS8 hq1 _) dX1_beginWith_94 ?_
        refine G_aload_n (pc := 95) h.1 dX1_beginWith_95 rfl 1 rfl ?_
        refine G_get (pc := 96) (v := .ref (y.2.1 (sI q1 6))) h.1 fl_X1_72 (ids_s hq1 0 (by decide)) (eS0 hq1 _) rfl dX1_beginWith_96 ?_
        refine G_get (pc := 99) (v := .ref (y.2.1 (sI q1 9))) h.1 fl_X1_88 (ids_s hq1 6 (by decide)) (eS6 hq1 _) rfl dX1_beginWith_99 ?_
        refine G_iload (pc := 102) h.1 dX1_beginWith_102 5 rfl ?_
        refine G_iald (pc := 104) h.1 (ids_s hq1 9 (by decide)) (eS9 hq1 _) dX1_beginWith_104 ?_
        refine G_callVv (pc := 105) (As := [.ref (y.2.1 (sI q1 0)), .int a5, .int (M11 (sI q1 8) (a5).toNatClampNeg), .int (M11 (sI q1 9) (a5).toNatClampNeg)]) (rest := []) h.1 h.2.2.1 lk_X1_91 (ids_c hq0 0 (by decide)) (eC0 hq0 _) rfl rfl (c_X1_addRow x.1.2.1 y hy q0 q1 hq0 hq1 a5 (M11 (sI q1 8) (a5).toNatClampNeg) (M11 (sI q1 9) (a5).toNatClampNeg) M11) rfl rfl (Nat.le_of_ble_eq_true rfl) ⟨rfl, rfl, Nat.le_of_ble_eq_true rfl, Nat.le_of_ble_eq_true rfl⟩ dX1_beginWith_105 (fun r14 M13 => ?_)
        refine G_goto (pc := 108) (tgt := 132) h.1 dX1_beginWith_108 (by decide) ?_
        exact G_sub [0, 1, 2, 3, 4, 5] rfl (gd_X1_beginWith_B132 hy h q0 q1 hq0 hq1 kx1 kb a2 a3 a4 a5 hx1 hb M13)
set_option maxRecDepth 20000 in
theorem gd_X1_beginWith_L51 {x : Cx} {y : Cy} (hy : Inj y) (h : OkM x y cX1_beginWith RX1 6 none rX1_beginWith) (q0 : Nat) (q1 : Nat) (hq0 : q0 < 2) (hq1 : q1 < 7) (a2 : Int32) (a3 : Int32) (a4 : Int32) (kx1 : Mem → Ans) (hx1 : ∀ M0 : Mem, G x y 138 [(0, .ref (y.2.1 (cI q0 0))), (1, .ref (y.2.1 (sI q1 0))), (2, .int a2), (3, .int a3), (4, .int a4)] [] M0 (kx1 M0)) : ∀ (n : Nat) (a5 : Int32) (M : Mem), G x y 51 [(0, .ref (y.2.1 (cI q0 0))), (1, .ref (y.2.1 (sI q1 0))), (2, .int a2), (3, .int a3), (4, .int a4), (5, .int a5)] [] M (d_X1_beginWith_L51 q0 q1 a2 a3 a4 kx1 n a5 M) := by
  intro n
  induction n with
  | zero => intro a5 M; exact G_none
  | succ n ih => intro a5 M; exact gd_X1_beginWith_L51_body hy h q0 q1 hq0 hq1 a2 a3 a4 kx1 hx1 _ ih a5 M
set_option maxRecDepth 20000 in
theorem gd_X1_beginWith_B164 {x : Cx} {y : Cy} (hy : Inj y) (h : OkM x y cX1_beginWith RX1 6 none rX1_beginWith) (q0 : Nat) (q1 : Nat) (hq0 : q0 < 2) (hq1 : q1 < 7) (M : Mem) : G x y 164 [(0, .ref (y.2.1 (cI q0 0)))] [] M (d_X1_beginWith_B164 q0 q1 M) := by
  unfold d_X1_beginWith_B164
  refine G_aload_n (pc := 164) h.1 dX1_beginWith_164 rfl 0 rfl ?_
  refine G_aload_n (pc := 165) h.1 dX1_beginWith_165 rfl 0 rfl ?_
  refine G_get (pc := 166) (v := .int (M (cI q0 0) 6)) h.1 fl_X1_69 (ids_c hq0 0 (by decide)) (eC0 hq0 _) rfl dX1_beginWith_166 ?_
  refine G_put (pc := 169) h.1 fp_X1_94 (ids_c hq0 0 (by decide)) (fun m => eC0 hq0 m) (fun _ => rfl) (fun _ => Nat.le_of_ble_eq_true rfl) rfl rfl dX1_beginWith_169 (fun M16 => ?_)
  exact G_vret (pc := 172) h dX1_beginWith_172
set_option maxRecDepth 20000 in
theorem c_X1_beginWith (l : Launch) (y : Cy) (hy : Inj y) (q0 : Nat) (q1 : Nat) (hq0 : q0 < 2) (hq1 : q1 < 7) (p2 : Int32) (p3 : Int32) (p4 : Int32) (M : Mem) : CT l y yX1_beginWith cX1_beginWith 6 none rX1_beginWith [.ref (y.2.1 (cI q0 0)), .ref (y.2.1 (sI q1 0)), .int p2, .int p3, .int p4] M (d_X1_beginWith q0 q1 p2 p3 p4 M) := by
  refine CT_of (by decide) hy (Nat.le_of_ble_eq_true rfl) (fun x hxl h => ?_)
  show G x y 0 [(0, .ref (y.2.1 (cI q0 0))), (1, .ref (y.2.1 (sI q1 0))), (2, .int p2), (3, .int p3), (4, .int p4)] [] M _
  unfold d_X1_beginWith
  refine G_aload_n (pc := 0) h.1 dX1_beginWith_0 rfl 0 rfl ?_
  refine G_aload_n (pc := 1) h.1 dX1_beginWith_1 rfl 1 rfl ?_
  refine G_get (pc := 2) (v := .int (M (sI q1 0) 0)) h.1 fl_X1_43 (ids_s hq1 0 (by decide)) (eS0 hq1 _) rfl dX1_beginWith_2 ?_
  refine G_put (pc := 5) h.1 fp_X1_49 (ids_c hq0 0 (by decide)) (fun m => eC0 hq0 m) (fun _ => rfl) (fun _ => Nat.le_of_ble_eq_true rfl) rfl rfl dX1_beginWith_5 (fun M1 => ?_)
  refine G_aload_n (pc := 8) h.1 dX1_beginWith_8 rfl 0 rfl ?_
  refine G_aload_n (pc := 9) h.1 dX1_beginWith_9 rfl 1 rfl ?_
  refine G_get (pc := 10) (v := .int (M1 (sI q1 0) 1)) h.1 fl_X1_50 (ids_s hq1 0 (by decide)) (eS0 hq1 _) rfl dX1_beginWith_10 ?_
  refine G_put (pc := 13) h.1 fp_X1_53 (ids_c hq0 0 (by decide)) (fun m => eC0 hq0 m) (fun _ => rfl) (fun _ => Nat.le_of_ble_eq_true rfl) rfl rfl dX1_beginWith_13 (fun M2 => ?_)
  refine G_aload_n (pc := 16) h.1 dX1_beginWith_16 rfl 0 rfl ?_
  refine G_aload_n (pc := 17) h.1 dX1_beginWith_17 rfl 1 rfl ?_
  refine G_get (pc := 18) (v := .int (M2 (sI q1 0) 2)) h.1 fl_X1_54 (ids_s hq1 0 (by decide)) (eS0 hq1 _) rfl dX1_beginWith_18 ?_
  refine G_put (pc := 21) h.1 fp_X1_57 (ids_c hq0 0 (by decide)) (fun m => eC0 hq0 m) (fun _ => rfl) (fun _ => Nat.le_of_ble_eq_true rfl) rfl rfl dX1_beginWith_21 (fun M3 => ?_)
  refine G_aload_n (pc := 24) h.1 dX1_beginWith_24 rfl 0 rfl ?_
  refine G_aload_n (pc := 25) h.1 dX1_beginWith_25 rfl 1 rfl ?_
  refine G_get (pc := 26) (v := .int (M3 (sI q1 0) 3)) h.1 fl_X1_58 (ids_s hq1 0 (by decide)) (eS0 hq1 _) rfl dX1_beginWith_26 ?_
  refine G_put (pc := 29) h.1 fp_X1_61 (ids_c hq0 0 (by decide)) (fun m => eC0 hq0 m) (fun _ => rfl) (fun _ => Nat.le_of_ble_eq_true rfl) rfl rfl dX1_beginWith_29 (fun M4 => ?_)
  refine G_aload_n (pc := 32) h.1 dX1_beginWith_32 rfl 0 rfl ?_
  refine G_ldc (pc := 33) h.1 dX1_beginWith_33 ct_X1_62 ?_
  refine G_put (pc := 35) h.1 fp_X1_63 (ids_c hq0 0 (by decide)) (fun m => eC0 hq0 m) (fun _ => rfl) (fun _ => Nat.le_of_ble_eq_true rfl) rfl rfl dX1_beginWith_35 (fun M5 => ?_)
  refine G_aload_n (pc := 38) h.1 dX1_beginWith_38 rfl 0 rfl ?_
  refine G_iconst (pc := 39) (v := (0)) h.1 dX1_beginWith_39 (by decide) ?_
  refine G_put (pc := 40) h.1 fp_X1_66 (ids_c hq0 0 (by decide)) (fun m => eC0 hq0 m) (fun _ => rfl) (fun _ => Nat.le_of_ble_eq_true rfl) rfl rfl dX1_beginWith_40 (fun M6 => ?_)
  refine G_aload_n (pc := 43) h.1 dX1_beginWith_43 rfl 0 rfl ?_
  refine G_iconst (pc := 44) (v := (0)) h.1 dX1_beginWith_44 (by decide) ?_
  refine G_put (pc := 45) h.1 fp_X1_69 (ids_c hq0 0 (by decide)) (fun m => eC0 hq0 m) (fun _ => rfl) (fun _ => Nat.le_of_ble_eq_true rfl) rfl rfl dX1_beginWith_45 (fun M7 => ?_)
  refine G_iconst (pc := 48) (v := (0)) h.1 dX1_beginWith_48 (by decide) ?_
  refine G_istore (pc := 49) h.1 h.2.1 [(5, .int (0 : Int32)), (0, .ref (y.2.1 (cI q0 0))), (1, .ref (y.2.1 (sI q1 0))), (2, .int p2), (3, .int p3), (4, .int p4)] dX1_beginWith_49 (by decide) rfl ?_
  refine G_sub [1, 2, 3, 4, 5, 0] rfl (gd_X1_beginWith_L51 hy h q0 q1 hq0 hq1 p2 p3 p4 _ (fun M15 => ?_) fuelN (0 : Int32) M7)
  refine G_iload_n (pc := 138) h.1 dX1_beginWith_138 rfl 2 rfl ?_
  refine G_aload_n (pc := 139) h.1 dX1_beginWith_139 rfl 1 rfl ?_
  refine G_get (pc := 140) (v := .ref (y.2.1 (sI q1 6))) h.1 fl_X1_72 (ids_s hq1 0 (by decide)) (eS0 hq1 _) rfl dX1_beginWith_140 ?_
  refine G_get (pc := 143) (v := .int (M15 (sI q1 6) 0)) h.1 fl_X1_76 (ids_s hq1 6 (by decide)) (eS6 hq1 _) rfl dX1_beginWith_143 ?_
  refine G_icmp_lt (pc := 146) (tgt := 164) h.1 dX1_beginWith_146 (by decide) ?_ ?_
  · exact G_sub [0] rfl (gd_X1_beginWith_B164 hy h q0 q1 hq0 hq1 M15)
  · refine G_iload (pc := 149) h.1 dX1_beginWith_149 4 rfl ?_
    refine G_iconst (pc := 151) (v := (-1)) h.1 dX1_beginWith_151 (by decide) ?_
    refine G_icmp_eq (pc := 152) (tgt := 164) h.1 dX1_beginWith_152 (by decide) ?_ ?_
    · exact G_sub [0] rfl (gd_X1_beginWith_B164 hy h q0 q1 hq0 hq1 M15)
    · refine G_aload_n (pc := 155) h.1 dX1_beginWith_155 rfl 0 rfl ?_
      refine G_aload_n (pc := 156) h.1 dX1_beginWith_156 rfl 1 rfl ?_
      refine G_iload_n (pc := 157) h.1 dX1_beginWith_157 rfl 2 rfl ?_
      refine G_iload_n (pc := 158) h.1 dX1_beginWith_158 rfl 3 rfl ?_
      refine G_iload (pc := 159) h.1 dX1_beginWith_159 4 rfl ?_
      refine G_callVv (pc := 161) (As := [.ref (y.2.1 (sI q1 0)), .int p2, .int p3, .int p4]) (rest := []) h.1 h.2.2.1 lk_X1_91 (ids_c hq0 0 (by decide)) (eC0 hq0 _) rfl rfl (c_X1_addRow x.1.2.1 y hy q0 q1 hq0 hq1 p2 p3 p4 M15) rfl rfl (Nat.le_of_ble_eq_true rfl) ⟨rfl, rfl, Nat.le_of_ble_eq_true rfl, Nat.le_of_ble_eq_true rfl⟩ dX1_beginWith_161 (fun r18 M17 => ?_)
      exact G_sub [0] rfl (gd_X1_beginWith_B164 hy h q0 q1 hq0 hq1 M17)
theorem dX1_begin_0 : decode cX1_begin 0 = .ok (.aload_n 0, 1) := by decide +kernel
theorem dX1_begin_1 : decode cX1_begin 1 = .ok (.aload_n 1, 1) := by decide +kernel
theorem dX1_begin_2 : decode cX1_begin 2 = .ok (.iconst (-1), 1) := by decide +kernel
theorem dX1_begin_3 : decode cX1_begin 3 = .ok (.iconst (-1), 1) := by decide +kernel
theorem dX1_begin_4 : decode cX1_begin 4 = .ok (.iconst (-1), 1) := by decide +kernel
theorem dX1_begin_5 : decode cX1_begin 5 = .ok (.invokevirtual 39, 3) := by decide +kernel
theorem dX1_begin_8 : decode cX1_begin 8 = .ok (.return_, 1) := by decide +kernel
abbrev rX1_begin : Room := { frames := 3, cells := 0, slots := 0, locals := 71 }
set_option maxRecDepth 20000 in
theorem c_X1_begin (l : Launch) (y : Cy) (hy : Inj y) (q0 : Nat) (q1 : Nat) (hq0 : q0 < 2) (hq1 : q1 < 7) (M : Mem) : CT l y yX1_begin cX1_begin 2 none rX1_begin [.ref (y.2.1 (cI q0 0)), .ref (y.2.1 (sI q1 0))] M (d_X1_begin q0 q1 M) := by
  refine CT_of (by decide) hy (Nat.le_of_ble_eq_true rfl) (fun x hxl h => ?_)
  show G x y 0 [(0, .ref (y.2.1 (cI q0 0))), (1, .ref (y.2.1 (sI q1 0)))] [] M _
  unfold d_X1_begin
  refine G_aload_n (pc := 0) h.1 dX1_begin_0 rfl 0 rfl ?_
  refine G_aload_n (pc := 1) h.1 dX1_begin_1 rfl 1 rfl ?_
  refine G_iconst (pc := 2) (v := (-1)) h.1 dX1_begin_2 (by decide) ?_
  refine G_iconst (pc := 3) (v := (-1)) h.1 dX1_begin_3 (by decide) ?_
  refine G_iconst (pc := 4) (v := (-1)) h.1 dX1_begin_4 (by decide) ?_
  refine G_callVv (pc := 5) (As := [.ref (y.2.1 (sI q1 0)), .int (-1 : Int32), .int (-1 : Int32), .int (-1 : Int32)]) (rest := []) h.1 h.2.2.1 lk_X1_39 (ids_c hq0 0 (by decide)) (eC0 hq0 _) rfl rfl (c_X1_beginWith x.1.2.1 y hy q0 q1 hq0 hq1 (-1 : Int32) (-1 : Int32) (-1 : Int32) M) rfl rfl (Nat.le_of_ble_eq_true rfl) ⟨rfl, rfl, Nat.le_of_ble_eq_true rfl, Nat.le_of_ble_eq_true rfl⟩ dX1_begin_5 (fun r2 M1 => ?_)
  exact G_vret (pc := 8) h dX1_begin_8
theorem dX1_drawFor_0 : decode cX1_drawFor 0 = .ok (.iload_n 1, 1) := by decide +kernel
theorem dX1_drawFor_1 : decode cX1_drawFor 1 = .ok (.ifCond .lt 11, 3) := by decide +kernel
theorem dX1_drawFor_4 : decode cX1_drawFor 4 = .ok (.iload_n 1, 1) := by decide +kernel
theorem dX1_drawFor_5 : decode cX1_drawFor 5 = .ok (.aload_n 0, 1) := by decide +kernel
theorem dX1_drawFor_6 : decode cX1_drawFor 6 = .ok (.getfield 69, 3) := by decide +kernel
theorem dX1_drawFor_9 : decode cX1_drawFor 9 = .ok (.if_icmp .lt 4, 3) := by decide +kernel
theorem dX1_drawFor_12 : decode cX1_drawFor 12 = .ok (.return_, 1) := by decide +kernel
theorem dX1_drawFor_13 : decode cX1_drawFor 13 = .ok (.aload_n 0, 1) := by decide +kernel
theorem dX1_drawFor_14 : decode cX1_drawFor 14 = .ok (.getfield 53, 3) := by decide +kernel
theorem dX1_drawFor_17 : decode cX1_drawFor 17 = .ok (.aload_n 0, 1) := by decide +kernel
theorem dX1_drawFor_18 : decode cX1_drawFor 18 = .ok (.getfield 27, 3) := by decide +kernel
theorem dX1_drawFor_21 : decode cX1_drawFor 21 = .ok (.iload_n 1, 1) := by decide +kernel
theorem dX1_drawFor_22 : decode cX1_drawFor 22 = .ok (.iaload, 1) := by decide +kernel
theorem dX1_drawFor_23 : decode cX1_drawFor 23 = .ok (.isub, 1) := by decide +kernel
theorem dX1_drawFor_24 : decode cX1_drawFor 24 = .ok (.istore_n 2, 1) := by decide +kernel
theorem dX1_drawFor_25 : decode cX1_drawFor 25 = .ok (.iload_n 2, 1) := by decide +kernel
theorem dX1_drawFor_26 : decode cX1_drawFor 26 = .ok (.aload_n 0, 1) := by decide +kernel
theorem dX1_drawFor_27 : decode cX1_drawFor 27 = .ok (.getfield 24, 3) := by decide +kernel
theorem dX1_drawFor_30 : decode cX1_drawFor 30 = .ok (.iload_n 1, 1) := by decide +kernel
theorem dX1_drawFor_31 : decode cX1_drawFor 31 = .ok (.iaload, 1) := by decide +kernel
theorem dX1_drawFor_32 : decode cX1_drawFor 32 = .ok (.if_icmp .ge 10, 3) := by decide +kernel
theorem dX1_drawFor_35 : decode cX1_drawFor 35 = .ok (.aload_n 0, 1) := by decide +kernel
theorem dX1_drawFor_36 : decode cX1_drawFor 36 = .ok (.getfield 24, 3) := by decide +kernel
theorem dX1_drawFor_39 : decode cX1_drawFor 39 = .ok (.iload_n 1, 1) := by decide +kernel
theorem dX1_drawFor_40 : decode cX1_drawFor 40 = .ok (.iload_n 2, 1) := by decide +kernel
theorem dX1_drawFor_41 : decode cX1_drawFor 41 = .ok (.iastore, 1) := by decide +kernel
theorem dX1_drawFor_42 : decode cX1_drawFor 42 = .ok (.iload_n 2, 1) := by decide +kernel
theorem dX1_drawFor_43 : decode cX1_drawFor 43 = .ok (.ifCond .ge 31, 3) := by decide +kernel
theorem dX1_drawFor_46 : decode cX1_drawFor 46 = .ok (.aload_n 0, 1) := by decide +kernel
theorem dX1_drawFor_47 : decode cX1_drawFor 47 = .ok (.getfield 15, 3) := by decide +kernel
theorem dX1_drawFor_50 : decode cX1_drawFor 50 = .ok (.iload_n 1, 1) := by decide +kernel
theorem dX1_drawFor_51 : decode cX1_drawFor 51 = .ok (.iconst 3, 1) := by decide +kernel
theorem dX1_drawFor_52 : decode cX1_drawFor 52 = .ok (.iastore, 1) := by decide +kernel
theorem dX1_drawFor_53 : decode cX1_drawFor 53 = .ok (.aload_n 0, 1) := by decide +kernel
theorem dX1_drawFor_54 : decode cX1_drawFor 54 = .ok (.getfield 21, 3) := by decide +kernel
theorem dX1_drawFor_57 : decode cX1_drawFor 57 = .ok (.iload_n 1, 1) := by decide +kernel
theorem dX1_drawFor_58 : decode cX1_drawFor 58 = .ok (.aload_n 0, 1) := by decide +kernel
theorem dX1_drawFor_59 : decode cX1_drawFor 59 = .ok (.getfield 49, 3) := by decide +kernel
theorem dX1_drawFor_62 : decode cX1_drawFor 62 = .ok (.iastore, 1) := by decide +kernel
theorem dX1_drawFor_63 : decode cX1_drawFor 63 = .ok (.aload_n 0, 1) := by decide +kernel
theorem dX1_drawFor_64 : decode cX1_drawFor 64 = .ok (.dup, 1) := by decide +kernel
theorem dX1_drawFor_65 : decode cX1_drawFor 65 = .ok (.getfield 94, 3) := by decide +kernel
theorem dX1_drawFor_68 : decode cX1_drawFor 68 = .ok (.iconst 1, 1) := by decide +kernel
theorem dX1_drawFor_69 : decode cX1_drawFor 69 = .ok (.isub, 1) := by decide +kernel
theorem dX1_drawFor_70 : decode cX1_drawFor 70 = .ok (.putfield 94, 3) := by decide +kernel
theorem dX1_drawFor_73 : decode cX1_drawFor 73 = .ok (.return_, 1) := by decide +kernel
theorem dX1_drawFor_74 : decode cX1_drawFor 74 = .ok (.aload_n 0, 1) := by decide +kernel
theorem dX1_drawFor_75 : decode cX1_drawFor 75 = .ok (.getfield 30, 3) := by decide +kernel
theorem dX1_drawFor_78 : decode cX1_drawFor 78 = .ok (.iload_n 1, 1) := by decide +kernel
theorem dX1_drawFor_79 : decode cX1_drawFor 79 = .ok (.iaload, 1) := by decide +kernel
theorem dX1_drawFor_80 : decode cX1_drawFor 80 = .ok (.aload_n 0, 1) := by decide +kernel
theorem dX1_drawFor_81 : decode cX1_drawFor 81 = .ok (.getfield 53, 3) := by decide +kernel
theorem dX1_drawFor_84 : decode cX1_drawFor 84 = .ok (.if_icmp .ge 12, 3) := by decide +kernel
theorem dX1_drawFor_87 : decode cX1_drawFor 87 = .ok (.aload_n 0, 1) := by decide +kernel
theorem dX1_drawFor_88 : decode cX1_drawFor 88 = .ok (.getfield 30, 3) := by decide +kernel
theorem dX1_drawFor_91 : decode cX1_drawFor 91 = .ok (.iload_n 1, 1) := by decide +kernel
theorem dX1_drawFor_92 : decode cX1_drawFor 92 = .ok (.iaload, 1) := by decide +kernel
theorem dX1_drawFor_93 : decode cX1_drawFor 93 = .ok (.goto 7, 3) := by decide +kernel
theorem dX1_drawFor_96 : decode cX1_drawFor 96 = .ok (.aload_n 0, 1) := by decide +kernel
theorem dX1_drawFor_97 : decode cX1_drawFor 97 = .ok (.getfield 53, 3) := by decide +kernel
theorem dX1_drawFor_100 : decode cX1_drawFor 100 = .ok (.istore_n 3, 1) := by decide +kernel
theorem dX1_drawFor_101 : decode cX1_drawFor 101 = .ok (.aload_n 0, 1) := by decide +kernel
theorem dX1_drawFor_102 : decode cX1_drawFor 102 = .ok (.dup, 1) := by decide +kernel
theorem dX1_drawFor_103 : decode cX1_drawFor 103 = .ok (.getfield 53, 3) := by decide +kernel
theorem dX1_drawFor_106 : decode cX1_drawFor 106 = .ok (.iload_n 3, 1) := by decide +kernel
theorem dX1_drawFor_107 : decode cX1_drawFor 107 = .ok (.isub, 1) := by decide +kernel
theorem dX1_drawFor_108 : decode cX1_drawFor 108 = .ok (.putfield 53, 3) := by decide +kernel
theorem dX1_drawFor_111 : decode cX1_drawFor 111 = .ok (.aload_n 0, 1) := by decide +kernel
theorem dX1_drawFor_112 : decode cX1_drawFor 112 = .ok (.dup, 1) := by decide +kernel
theorem dX1_drawFor_113 : decode cX1_drawFor 113 = .ok (.getfield 66, 3) := by decide +kernel
theorem dX1_drawFor_116 : decode cX1_drawFor 116 = .ok (.iload_n 3, 1) := by decide +kernel
theorem dX1_drawFor_117 : decode cX1_drawFor 117 = .ok (.iadd, 1) := by decide +kernel
theorem dX1_drawFor_118 : decode cX1_drawFor 118 = .ok (.putfield 66, 3) := by decide +kernel
theorem dX1_drawFor_121 : decode cX1_drawFor 121 = .ok (.aload_n 0, 1) := by decide +kernel
theorem dX1_drawFor_122 : decode cX1_drawFor 122 = .ok (.getfield 18, 3) := by decide +kernel
theorem dX1_drawFor_125 : decode cX1_drawFor 125 = .ok (.iload_n 1, 1) := by decide +kernel
theorem dX1_drawFor_126 : decode cX1_drawFor 126 = .ok (.dup2, 1) := by decide +kernel
theorem dX1_drawFor_127 : decode cX1_drawFor 127 = .ok (.iaload, 1) := by decide +kernel
theorem dX1_drawFor_128 : decode cX1_drawFor 128 = .ok (.iconst 1, 1) := by decide +kernel
theorem dX1_drawFor_129 : decode cX1_drawFor 129 = .ok (.iadd, 1) := by decide +kernel
theorem dX1_drawFor_130 : decode cX1_drawFor 130 = .ok (.iastore, 1) := by decide +kernel
theorem dX1_drawFor_131 : decode cX1_drawFor 131 = .ok (.aload_n 0, 1) := by decide +kernel
theorem dX1_drawFor_132 : decode cX1_drawFor 132 = .ok (.getfield 15, 3) := by decide +kernel
theorem dX1_drawFor_135 : decode cX1_drawFor 135 = .ok (.iload_n 1, 1) := by decide +kernel
theorem dX1_drawFor_136 : decode cX1_drawFor 136 = .ok (.iconst 1, 1) := by decide +kernel
theorem dX1_drawFor_137 : decode cX1_drawFor 137 = .ok (.iastore, 1) := by decide +kernel
theorem dX1_drawFor_138 : decode cX1_drawFor 138 = .ok (.aload_n 0, 1) := by decide +kernel
theorem dX1_drawFor_139 : decode cX1_drawFor 139 = .ok (.getfield 49, 3) := by decide +kernel
theorem dX1_drawFor_142 : decode cX1_drawFor 142 = .ok (.aload_n 0, 1) := by decide +kernel
theorem dX1_drawFor_143 : decode cX1_drawFor 143 = .ok (.getfield 36, 3) := by decide +kernel
theorem dX1_drawFor_146 : decode cX1_drawFor 146 = .ok (.iload_n 1, 1) := by decide +kernel
theorem dX1_drawFor_147 : decode cX1_drawFor 147 = .ok (.iaload, 1) := by decide +kernel
theorem dX1_drawFor_148 : decode cX1_drawFor 148 = .ok (.if_icmp .ne 20, 3) := by decide +kernel
theorem dX1_drawFor_151 : decode cX1_drawFor 151 = .ok (.aload_n 0, 1) := by decide +kernel
theorem dX1_drawFor_152 : decode cX1_drawFor 152 = .ok (.getfield 15, 3) := by decide +kernel
theorem dX1_drawFor_155 : decode cX1_drawFor 155 = .ok (.iload_n 1, 1) := by decide +kernel
theorem dX1_drawFor_156 : decode cX1_drawFor 156 = .ok (.iconst 2, 1) := by decide +kernel
theorem dX1_drawFor_157 : decode cX1_drawFor 157 = .ok (.iastore, 1) := by decide +kernel
theorem dX1_drawFor_158 : decode cX1_drawFor 158 = .ok (.aload_n 0, 1) := by decide +kernel
theorem dX1_drawFor_159 : decode cX1_drawFor 159 = .ok (.dup, 1) := by decide +kernel
theorem dX1_drawFor_160 : decode cX1_drawFor 160 = .ok (.getfield 94, 3) := by decide +kernel
theorem dX1_drawFor_163 : decode cX1_drawFor 163 = .ok (.iconst 1, 1) := by decide +kernel
theorem dX1_drawFor_164 : decode cX1_drawFor 164 = .ok (.isub, 1) := by decide +kernel
theorem dX1_drawFor_165 : decode cX1_drawFor 165 = .ok (.putfield 94, 3) := by decide +kernel
theorem dX1_drawFor_168 : decode cX1_drawFor 168 = .ok (.return_, 1) := by decide +kernel
abbrev rX1_drawFor : Room := { frames := 0, cells := 0, slots := 0, locals := 0 }
set_option maxRecDepth 20000 in
theorem gd_X1_drawFor_B100 {x : Cx} {y : Cy} (hy : Inj y) (h : OkM x y cX1_drawFor RX1 4 none rX1_drawFor) (q0 : Nat) (hq0 : q0 < 2) (a1 : Int32) (s0 : Int32) (M : Mem) : G x y 100 [(0, .ref (y.2.1 (cI q0 0))), (1, .int a1)] [.int s0] M (d_X1_drawFor_B100 q0 a1 s0 M) := by
  unfold d_X1_drawFor_B100
  refine G_istore_n (pc := 100) h.1 h.2.1 [(3, .int s0), (0, .ref (y.2.1 (cI q0 0))), (1, .int a1)] dX1_drawFor_100 rfl (by decide) rfl ?_
  refine G_aload_n (pc := 101) h.1 dX1_drawFor_101 rfl 1 rfl ?_
  refine G_dup (pc := 102) h.1 dX1_drawFor_102 rfl ?_
  refine G_get (pc := 103) (v := .int (M (cI q0 0) 1)) h.1 fl_X1_53 (ids_c hq0 0 (by decide)) (eC0 hq0 _) rfl dX1_drawFor_103 ?_
  refine G_iload_n (pc := 106) h.1 dX1_drawFor_106 rfl 0 rfl ?_
  refine G_isub (pc := 107) h.1 dX1_drawFor_107 ?_
  refine G_put (pc := 108) h.1 fp_X1_53 (ids_c hq0 0 (by decide)) (fun m => eC0 hq0 m) (fun _ => rfl) (fun _ => Nat.le_of_ble_eq_true rfl) rfl rfl dX1_drawFor_108 (fun M2 => ?_)
  refine G_aload_n (pc := 111) h.1 dX1_drawFor_111 rfl 1 rfl ?_
  refine G_dup (pc := 112) h.1 dX1_drawFor_112 rfl ?_
  refine G_get (pc := 113) (v := .int (M2 (cI q0 0) 5)) h.1 fl_X1_66 (ids_c hq0 0 (by decide)) (eC0 hq0 _) rfl dX1_drawFor_113 ?_
  refine G_iload_n (pc := 116) h.1 dX1_drawFor_116 rfl 0 rfl ?_
  refine G_iadd (pc := 117) h.1 dX1_drawFor_117 ?_
  refine G_put (pc := 118) h.1 fp_X1_66 (ids_c hq0 0 (by decide)) (fun m => eC0 hq0 m) (fun _ => rfl) (fun _ => Nat.le_of_ble_eq_true rfl) rfl rfl dX1_drawFor_118 (fun M3 => ?_)
  refine G_aload_n (pc := 121) h.1 dX1_drawFor_121 rfl 1 rfl ?_
  refine G_get (pc := 122) (v := .ref (y.2.1 (cI q0 3))) h.1 fl_X1_18 (ids_c hq0 0 (by decide)) (eC0 hq0 _) rfl dX1_drawFor_122 ?_
  refine G_iload_n (pc := 125) h.1 dX1_drawFor_125 rfl 2 rfl ?_
  refine G_dup2 (pc := 126) h.1 dX1_drawFor_126 rfl rfl ?_
  refine G_iald (pc := 127) h.1 (ids_c hq0 3 (by decide)) (eC3 hq0 _) dX1_drawFor_127 ?_
  refine G_iconst (pc := 128) (v := (1)) h.1 dX1_drawFor_128 (by decide) ?_
  refine G_iadd (pc := 129) h.1 dX1_drawFor_129 ?_
  refine G_iast (pc := 130) h.1 (ids_c hq0 3 (by decide)) (fun m => eC3 hq0 m) dX1_drawFor_130 (fun M4 => ?_)
  refine G_aload_n (pc := 131) h.1 dX1_drawFor_131 rfl 1 rfl ?_
  refine G_get (pc := 132) (v := .ref (y.2.1 (cI q0 2))) h.1 fl_X1_15 (ids_c hq0 0 (by decide)) (eC0 hq0 _) rfl dX1_drawFor_132 ?_
  refine G_iload_n (pc := 135) h.1 dX1_drawFor_135 rfl 2 rfl ?_
  refine G_iconst (pc := 136) (v := (1)) h.1 dX1_drawFor_136 (by decide) ?_
  refine G_iast (pc := 137) h.1 (ids_c hq0 2 (by decide)) (fun m => eC2 hq0 m) dX1_drawFor_137 (fun M5 => ?_)
  refine G_aload_n (pc := 138) h.1 dX1_drawFor_138 rfl 1 rfl ?_
  refine G_get (pc := 139) (v := .int (M5 (cI q0 0) 0)) h.1 fl_X1_49 (ids_c hq0 0 (by decide)) (eC0 hq0 _) rfl dX1_drawFor_139 ?_
  refine G_aload_n (pc := 142) h.1 dX1_drawFor_142 rfl 1 rfl ?_
  refine G_get (pc := 143) (v := .ref (y.2.1 (cI q0 9))) h.1 fl_X1_36 (ids_c hq0 0 (by decide)) (eC0 hq0 _) rfl dX1_drawFor_143 ?_
  refine G_iload_n (pc := 146) h.1 dX1_drawFor_146 rfl 2 rfl ?_
  refine G_iald (pc := 147) h.1 (ids_c hq0 9 (by decide)) (eC9 hq0 _) dX1_drawFor_147 ?_
  refine G_icmp_ne (pc := 148) (tgt := 168) h.1 dX1_drawFor_148 (by decide) ?_ ?_
  · exact G_vret (pc := 168) h dX1_drawFor_168
  · refine G_aload_n (pc := 151) h.1 dX1_drawFor_151 rfl 1 rfl ?_
    refine G_get (pc := 152) (v := .ref (y.2.1 (cI q0 2))) h.1 fl_X1_15 (ids_c hq0 0 (by decide)) (eC0 hq0 _) rfl dX1_drawFor_152 ?_
    refine G_iload_n (pc := 155) h.1 dX1_drawFor_155 rfl 2 rfl ?_
    refine G_iconst (pc := 156) (v := (2)) h.1 dX1_drawFor_156 (by decide) ?_
    refine G_iast (pc := 157) h.1 (ids_c hq0 2 (by decide)) (fun m => eC2 hq0 m) dX1_drawFor_157 (fun M6 => ?_)
    refine G_aload_n (pc := 158) h.1 dX1_drawFor_158 rfl 1 rfl ?_
    refine G_dup (pc := 159) h.1 dX1_drawFor_159 rfl ?_
    refine G_get (pc := 160) (v := .int (M6 (cI q0 0) 7)) h.1 fl_X1_94 (ids_c hq0 0 (by decide)) (eC0 hq0 _) rfl dX1_drawFor_160 ?_
    refine G_iconst (pc := 163) (v := (1)) h.1 dX1_drawFor_163 (by decide) ?_
    refine G_isub (pc := 164) h.1 dX1_drawFor_164 ?_
    refine G_put (pc := 165) h.1 fp_X1_94 (ids_c hq0 0 (by decide)) (fun m => eC0 hq0 m) (fun _ => rfl) (fun _ => Nat.le_of_ble_eq_true rfl) rfl rfl dX1_drawFor_165 (fun M7 => ?_)
    exact G_vret (pc := 168) h dX1_drawFor_168
set_option maxRecDepth 20000 in
theorem gd_X1_drawFor_B42 {x : Cx} {y : Cy} (hy : Inj y) (h : OkM x y cX1_drawFor RX1 4 none rX1_drawFor) (q0 : Nat) (hq0 : q0 < 2) (a1 : Int32) (a2 : Int32) (M : Mem) : G x y 42 [(0, .ref (y.2.1 (cI q0 0))), (1, .int a1), (2, .int a2)] [] M (d_X1_drawFor_B42 q0 a1 a2 M) := by
  unfold d_X1_drawFor_B42
  refine G_iload_n (pc := 42) h.1 dX1_drawFor_42 rfl 2 rfl ?_
  refine G_if_ge (pc := 43) (tgt := 74) h.1 dX1_drawFor_43 (by decide) ?_ ?_
  · refine G_aload_n (pc := 74) h.1 dX1_drawFor_74 rfl 0 rfl ?_
    refine G_get (pc := 75) (v := .ref (y.2.1 (cI q0 7))) h.1 fl_X1_30 (ids_c hq0 0 (by decide)) (eC0 hq0 _) rfl dX1_drawFor_75 ?_
    refine G_iload_n (pc := 78) h.1 dX1_drawFor_78 rfl 1 rfl ?_
    refine G_iald (pc := 79) h.1 (ids_c hq0 7 (by decide)) (eC7 hq0 _) dX1_drawFor_79 ?_
    refine G_aload_n (pc := 80) h.1 dX1_drawFor_80 rfl 0 rfl ?_
    refine G_get (pc := 81) (v := .int (M (cI q0 0) 1)) h.1 fl_X1_53 (ids_c hq0 0 (by decide)) (eC0 hq0 _) rfl dX1_drawFor_81 ?_
    refine G_icmp_ge (pc := 84) (tgt := 96) h.1 dX1_drawFor_84 (by decide) ?_ ?_
    · refine G_aload_n (pc := 96) h.1 dX1_drawFor_96 rfl 0 rfl ?_
      refine G_get (pc := 97) (v := .int (M (cI q0 0) 1)) h.1 fl_X1_53 (ids_c hq0 0 (by decide)) (eC0 hq0 _) rfl dX1_drawFor_97 ?_
      exact G_sub [0, 1] rfl (gd_X1_drawFor_B100 hy h q0 hq0 a1 (M (cI q0 0) 1) M)
    · refine G_aload_n (pc := 87) h.1 dX1_drawFor_87 rfl 0 rfl ?_
      refine G_get (pc := 88) (v := .ref (y.2.1 (cI q0 7))) h.1 fl_X1_30 (ids_c hq0 0 (by decide)) (eC0 hq0 _) rfl dX1_drawFor_88 ?_
      refine G_iload_n (pc := 91) h.1 dX1_drawFor_91 rfl 1 rfl ?_
      refine G_iald (pc := 92) h.1 (ids_c hq0 7 (by decide)) (eC7 hq0 _) dX1_drawFor_92 ?_
      refine G_goto (pc := 93) (tgt := 100) h.1 dX1_drawFor_93 (by decide) ?_
      exact G_sub [0, 1] rfl (gd_X1_drawFor_B100 hy h q0 hq0 a1 (M (cI q0 7) (a1).toNatClampNeg) M)
  · refine G_aload_n (pc := 46) h.1 dX1_drawFor_46 rfl 0 rfl ?_
    refine G_get (pc := 47) (v := .ref (y.2.1 (cI q0 2))) h.1 fl_X1_15 (ids_c hq0 0 (by decide)) (eC0 hq0 _) rfl dX1_drawFor_47 ?_
    refine G_iload_n (pc := 50) h.1 dX1_drawFor_50 rfl 1 rfl ?_
    refine G_iconst (pc := 51) (v := (3)) h.1 dX1_drawFor_51 (by decide) ?_
    refine G_iast (pc := 52) h.1 (ids_c hq0 2 (by decide)) (fun m => eC2 hq0 m) dX1_drawFor_52 (fun M8 => ?_)
    refine G_aload_n (pc := 53) h.1 dX1_drawFor_53 rfl 0 rfl ?_
    refine G_get (pc := 54) (v := .ref (y.2.1 (cI q0 4))) h.1 fl_X1_21 (ids_c hq0 0 (by decide)) (eC0 hq0 _) rfl dX1_drawFor_54 ?_
    refine G_iload_n (pc := 57) h.1 dX1_drawFor_57 rfl 1 rfl ?_
    refine G_aload_n (pc := 58) h.1 dX1_drawFor_58 rfl 0 rfl ?_
    refine G_get (pc := 59) (v := .int (M8 (cI q0 0) 0)) h.1 fl_X1_49 (ids_c hq0 0 (by decide)) (eC0 hq0 _) rfl dX1_drawFor_59 ?_
    refine G_iast (pc := 62) h.1 (ids_c hq0 4 (by decide)) (fun m => eC4 hq0 m) dX1_drawFor_62 (fun M9 => ?_)
    refine G_aload_n (pc := 63) h.1 dX1_drawFor_63 rfl 0 rfl ?_
    refine G_dup (pc := 64) h.1 dX1_drawFor_64 rfl ?_
    refine G_get (pc := 65) (v := .int (M9 (cI q0 0) 7)) h.1 fl_X1_94 (ids_c hq0 0 (by decide)) (eC0 hq0 _) rfl dX1_drawFor_65 ?_
    refine G_iconst (pc := 68) (v := (1)) h.1 dX1_drawFor_68 (by decide) ?_
    refine G_isub (pc := 69) h.1 dX1_drawFor_69 ?_
    refine G_put (pc := 70) h.1 fp_X1_94 (ids_c hq0 0 (by decide)) (fun m => eC0 hq0 m) (fun _ => rfl) (fun _ => Nat.le_of_ble_eq_true rfl) rfl rfl dX1_drawFor_70 (fun M10 => ?_)
    exact G_vret (pc := 73) h dX1_drawFor_73
set_option maxRecDepth 20000 in
theorem c_X1_drawFor (l : Launch) (y : Cy) (hy : Inj y) (q0 : Nat) (hq0 : q0 < 2) (p1 : Int32) (M : Mem) : CT l y yX1_drawFor cX1_drawFor 4 none rX1_drawFor [.ref (y.2.1 (cI q0 0)), .int p1] M (d_X1_drawFor q0 p1 M) := by
  refine CT_of (by decide) hy (Nat.le_of_ble_eq_true rfl) (fun x hxl h => ?_)
  show G x y 0 [(0, .ref (y.2.1 (cI q0 0))), (1, .int p1)] [] M _
  unfold d_X1_drawFor
  refine G_iload_n (pc := 0) h.1 dX1_drawFor_0 rfl 1 rfl ?_
  refine G_if_lt (pc := 1) (tgt := 12) h.1 dX1_drawFor_1 (by decide) ?_ ?_
  · exact G_vret (pc := 12) h dX1_drawFor_12
  · refine G_iload_n (pc := 4) h.1 dX1_drawFor_4 rfl 1 rfl ?_
    refine G_aload_n (pc := 5) h.1 dX1_drawFor_5 rfl 0 rfl ?_
    refine G_get (pc := 6) (v := .int (M (cI q0 0) 6)) h.1 fl_X1_69 (ids_c hq0 0 (by decide)) (eC0 hq0 _) rfl dX1_drawFor_6 ?_
    refine G_icmp_lt (pc := 9) (tgt := 13) h.1 dX1_drawFor_9 (by decide) ?_ ?_
    · refine G_aload_n (pc := 13) h.1 dX1_drawFor_13 rfl 0 rfl ?_
      refine G_get (pc := 14) (v := .int (M (cI q0 0) 1)) h.1 fl_X1_53 (ids_c hq0 0 (by decide)) (eC0 hq0 _) rfl dX1_drawFor_14 ?_
      refine G_aload_n (pc := 17) h.1 dX1_drawFor_17 rfl 0 rfl ?_
      refine G_get (pc := 18) (v := .ref (y.2.1 (cI q0 6))) h.1 fl_X1_27 (ids_c hq0 0 (by decide)) (eC0 hq0 _) rfl dX1_drawFor_18 ?_
      refine G_iload_n (pc := 21) h.1 dX1_drawFor_21 rfl 1 rfl ?_
      refine G_iald (pc := 22) h.1 (ids_c hq0 6 (by decide)) (eC6 hq0 _) dX1_drawFor_22 ?_
      refine G_isub (pc := 23) h.1 dX1_drawFor_23 ?_
      refine G_top (fun v1 => ?_)
      refine G_istore_n (pc := 24) h.1 h.2.1 [(2, .int v1), (0, .ref (y.2.1 (cI q0 0))), (1, .int p1)] dX1_drawFor_24 rfl (by decide) rfl ?_
      refine G_iload_n (pc := 25) h.1 dX1_drawFor_25 rfl 0 rfl ?_
      refine G_aload_n (pc := 26) h.1 dX1_drawFor_26 rfl 1 rfl ?_
      refine G_get (pc := 27) (v := .ref (y.2.1 (cI q0 5))) h.1 fl_X1_24 (ids_c hq0 0 (by decide)) (eC0 hq0 _) rfl dX1_drawFor_27 ?_
      refine G_iload_n (pc := 30) h.1 dX1_drawFor_30 rfl 2 rfl ?_
      refine G_iald (pc := 31) h.1 (ids_c hq0 5 (by decide)) (eC5 hq0 _) dX1_drawFor_31 ?_
      refine G_icmp_ge (pc := 32) (tgt := 42) h.1 dX1_drawFor_32 (by decide) ?_ ?_
      · exact G_sub [1, 2, 0] rfl (gd_X1_drawFor_B42 hy h q0 hq0 p1 v1 M)
      · refine G_aload_n (pc := 35) h.1 dX1_drawFor_35 rfl 1 rfl ?_
        refine G_get (pc := 36) (v := .ref (y.2.1 (cI q0 5))) h.1 fl_X1_24 (ids_c hq0 0 (by decide)) (eC0 hq0 _) rfl dX1_drawFor_36 ?_
        refine G_iload_n (pc := 39) h.1 dX1_drawFor_39 rfl 2 rfl ?_
        refine G_iload_n (pc := 40) h.1 dX1_drawFor_40 rfl 0 rfl ?_
        refine G_iast (pc := 41) h.1 (ids_c hq0 5 (by decide)) (fun m => eC5 hq0 m) dX1_drawFor_41 (fun M11 => ?_)
        exact G_sub [1, 2, 0] rfl (gd_X1_drawFor_B42 hy h q0 hq0 p1 v1 M11)
    · exact G_vret (pc := 12) h dX1_drawFor_12
theorem dX1_passTick_0 : decode cX1_passTick 0 = .ok (.aload_n 0, 1) := by decide +kernel
theorem dX1_passTick_1 : decode cX1_passTick 1 = .ok (.dup, 1) := by decide +kernel
theorem dX1_passTick_2 : decode cX1_passTick 2 = .ok (.getfield 49, 3) := by decide +kernel
theorem dX1_passTick_5 : decode cX1_passTick 5 = .ok (.iconst 1, 1) := by decide +kernel
theorem dX1_passTick_6 : decode cX1_passTick 6 = .ok (.iadd, 1) := by decide +kernel
theorem dX1_passTick_7 : decode cX1_passTick 7 = .ok (.putfield 49, 3) := by decide +kernel
theorem dX1_passTick_10 : decode cX1_passTick 10 = .ok (.aload_n 0, 1) := by decide +kernel
theorem dX1_passTick_11 : decode cX1_passTick 11 = .ok (.aload_n 0, 1) := by decide +kernel
theorem dX1_passTick_12 : decode cX1_passTick 12 = .ok (.getfield 57, 3) := by decide +kernel
theorem dX1_passTick_15 : decode cX1_passTick 15 = .ok (.aload_n 0, 1) := by decide +kernel
theorem dX1_passTick_16 : decode cX1_passTick 16 = .ok (.getfield 53, 3) := by decide +kernel
theorem dX1_passTick_19 : decode cX1_passTick 19 = .ok (.aload_n 0, 1) := by decide +kernel
theorem dX1_passTick_20 : decode cX1_passTick 20 = .ok (.getfield 61, 3) := by decide +kernel
theorem dX1_passTick_23 : decode cX1_passTick 23 = .ok (.iadd, 1) := by decide +kernel
theorem dX1_passTick_24 : decode cX1_passTick 24 = .ok (.invokestatic 117, 3) := by decide +kernel
theorem dX1_passTick_27 : decode cX1_passTick 27 = .ok (.putfield 53, 3) := by decide +kernel
theorem dX1_passTick_30 : decode cX1_passTick 30 = .ok (.iconst 0, 1) := by decide +kernel
theorem dX1_passTick_31 : decode cX1_passTick 31 = .ok (.istore_n 1, 1) := by decide +kernel
theorem dX1_passTick_32 : decode cX1_passTick 32 = .ok (.iload_n 1, 1) := by decide +kernel
theorem dX1_passTick_33 : decode cX1_passTick 33 = .ok (.aload_n 0, 1) := by decide +kernel
theorem dX1_passTick_34 : decode cX1_passTick 34 = .ok (.getfield 69, 3) := by decide +kernel
theorem dX1_passTick_37 : decode cX1_passTick 37 = .ok (.if_icmp .ge 50, 3) := by decide +kernel
theorem dX1_passTick_40 : decode cX1_passTick 40 = .ok (.aload_n 0, 1) := by decide +kernel
theorem dX1_passTick_41 : decode cX1_passTick 41 = .ok (.getfield 33, 3) := by decide +kernel
theorem dX1_passTick_44 : decode cX1_passTick 44 = .ok (.iload_n 1, 1) := by decide +kernel
theorem dX1_passTick_45 : decode cX1_passTick 45 = .ok (.iaload, 1) := by decide +kernel
theorem dX1_passTick_46 : decode cX1_passTick 46 = .ok (.aload_n 0, 1) := by decide +kernel
theorem dX1_passTick_47 : decode cX1_passTick 47 = .ok (.getfield 49, 3) := by decide +kernel
theorem dX1_passTick_50 : decode cX1_passTick 50 = .ok (.if_icmp .gt 31, 3) := by decide +kernel
theorem dX1_passTick_53 : decode cX1_passTick 53 = .ok (.aload_n 0, 1) := by decide +kernel
theorem dX1_passTick_54 : decode cX1_passTick 54 = .ok (.getfield 49, 3) := by decide +kernel
theorem dX1_passTick_57 : decode cX1_passTick 57 = .ok (.aload_n 0, 1) := by decide +kernel
theorem dX1_passTick_58 : decode cX1_passTick 58 = .ok (.getfield 36, 3) := by decide +kernel
theorem dX1_passTick_61 : decode cX1_passTick 61 = .ok (.iload_n 1, 1) := by decide +kernel
theorem dX1_passTick_62 : decode cX1_passTick 62 = .ok (.iaload, 1) := by decide +kernel
theorem dX1_passTick_63 : decode cX1_passTick 63 = .ok (.if_icmp .gt 18, 3) := by decide +kernel
theorem dX1_passTick_66 : decode cX1_passTick 66 = .ok (.aload_n 0, 1) := by decide +kernel
theorem dX1_passTick_67 : decode cX1_passTick 67 = .ok (.getfield 15, 3) := by decide +kernel
theorem dX1_passTick_70 : decode cX1_passTick 70 = .ok (.iload_n 1, 1) := by decide +kernel
theorem dX1_passTick_71 : decode cX1_passTick 71 = .ok (.iaload, 1) := by decide +kernel
theorem dX1_passTick_72 : decode cX1_passTick 72 = .ok (.iconst 3, 1) := by decide +kernel
theorem dX1_passTick_73 : decode cX1_passTick 73 = .ok (.if_icmp .eq 8, 3) := by decide +kernel
theorem dX1_passTick_76 : decode cX1_passTick 76 = .ok (.aload_n 0, 1) := by decide +kernel
theorem dX1_passTick_77 : decode cX1_passTick 77 = .ok (.iload_n 1, 1) := by decide +kernel
theorem dX1_passTick_78 : decode cX1_passTick 78 = .ok (.invokevirtual 123, 3) := by decide +kernel
theorem dX1_passTick_81 : decode cX1_passTick 81 = .ok (.iinc 1 1, 3) := by decide +kernel
theorem dX1_passTick_84 : decode cX1_passTick 84 = .ok (.goto (-52), 3) := by decide +kernel
theorem dX1_passTick_87 : decode cX1_passTick 87 = .ok (.aload_n 0, 1) := by decide +kernel
theorem dX1_passTick_88 : decode cX1_passTick 88 = .ok (.aload_n 0, 1) := by decide +kernel
theorem dX1_passTick_89 : decode cX1_passTick 89 = .ok (.getfield 63, 3) := by decide +kernel
theorem dX1_passTick_92 : decode cX1_passTick 92 = .ok (.aload_n 0, 1) := by decide +kernel
theorem dX1_passTick_93 : decode cX1_passTick 93 = .ok (.getfield 53, 3) := by decide +kernel
theorem dX1_passTick_96 : decode cX1_passTick 96 = .ok (.invokestatic 117, 3) := by decide +kernel
theorem dX1_passTick_99 : decode cX1_passTick 99 = .ok (.putfield 63, 3) := by decide +kernel
theorem dX1_passTick_102 : decode cX1_passTick 102 = .ok (.return_, 1) := by decide +kernel
abbrev rX1_passTick : Room := { frames := 1, cells := 0, slots := 0, locals := 23 }
set_option maxRecDepth 20000 in
theorem gd_X1_passTick_B81 {x : Cx} {y : Cy} (hy : Inj y) (h : OkM x y cX1_passTick RX1 2 none rX1_passTick) (q0 : Nat) (hq0 : q0 < 2) (kx1 : Mem → Ans) (kb : Int32 → Mem → Ans) (a1 : Int32) (hx1 : ∀ M0 : Mem, G x y 87 [(0, .ref (y.2.1 (cI q0 0)))] [] M0 (kx1 M0)) (hb : ∀ (b1 : Int32), ∀ M0 : Mem, G x y 32 [(0, .ref (y.2.1 (cI q0 0))), (1, .int b1)] [] M0 (kb b1 M0)) (M : Mem) : G x y 81 [(0, .ref (y.2.1 (cI q0 0))), (1, .int a1)] [] M (d_X1_passTick_B81 q0 kx1 kb a1 M) := by
  unfold d_X1_passTick_B81
  refine G_iinc (pc := 81) (v := a1 + (1)) h.1 h.2.1 (fun v3 => [(1, .int v3), (0, .ref (y.2.1 (cI q0 0)))]) dX1_passTick_81 (by decide) 1 rfl rfl (fun _ => rfl) (fun v3 => ?_)
  refine G_goto (pc := 84) (tgt := 32) h.1 dX1_passTick_84 (by decide) ?_
  exact G_sub [1, 0] rfl (hb v3 M)
set_option maxRecDepth 20000 in
theorem gd_X1_passTick_L32_body {x : Cx} {y : Cy} (hy : Inj y) (h : OkM x y cX1_passTick RX1 2 none rX1_passTick) (q0 : Nat) (hq0 : q0 < 2) (kx1 : Mem → Ans) (hx1 : ∀ M0 : Mem, G x y 87 [(0, .ref (y.2.1 (cI q0 0)))] [] M0 (kx1 M0)) (kb : Int32 → Mem → Ans) (hb : ∀ (b1 : Int32), ∀ M0 : Mem, G x y 32 [(0, .ref (y.2.1 (cI q0 0))), (1, .int b1)] [] M0 (kb b1 M0)) (a1 : Int32) (M : Mem) : G x y 32 [(0, .ref (y.2.1 (cI q0 0))), (1, .int a1)] [] M (d_X1_passTick_L32_body q0 kx1 kb a1 M) := by
  unfold d_X1_passTick_L32_body
  refine G_iload_n (pc := 32) h.1 dX1_passTick_32 rfl 1 rfl ?_
  refine G_aload_n (pc := 33) h.1 dX1_passTick_33 rfl 0 rfl ?_
  refine G_get (pc := 34) (v := .int (M (cI q0 0) 6)) h.1 fl_X1_69 (ids_c hq0 0 (by decide)) (eC0 hq0 _) rfl dX1_passTick_34 ?_
  refine G_icmp_ge (pc := 37) (tgt := 87) h.1 dX1_passTick_37 (by decide) ?_ ?_
  · exact G_sub [0] rfl (hx1 M)
  · refine G_aload_n (pc := 40) h.1 dX1_passTick_40 rfl 0 rfl ?_
    refine G_get (pc := 41) (v := .ref (y.2.1 (cI q0 8))) h.1 fl_X1_33 (ids_c hq0 0 (by decide)) (eC0 hq0 _) rfl dX1_passTick_41 ?_
    refine G_iload_n (pc := 44) h.1 dX1_passTick_44 rfl 1 rfl ?_
    refine G_iald (pc := 45) h.1 (ids_c hq0 8 (by decide)) (eC8 hq0 _) dX1_passTick_45 ?_
    refine G_aload_n (pc := 46) h.1 dX1_passTick_46 rfl 0 rfl ?_
    refine G_get (pc := 47) (v := .int (M (cI q0 0) 0)) h.1 fl_X1_49 (ids_c hq0 0 (by decide)) (eC0 hq0 _) rfl dX1_passTick_47 ?_
    refine G_icmp_gt (pc := 50) (tgt := 81) h.1 dX1_passTick_50 (by decide) ?_ ?_
    · exact G_sub [0, 1] rfl (gd_X1_passTick_B81 hy h q0 hq0 kx1 kb a1 hx1 hb M)
    · refine G_aload_n (pc := 53) h.1 dX1_passTick_53 rfl 0 rfl ?_
      refine G_get (pc := 54) (v := .int (M (cI q0 0) 0)) h.1 fl_X1_49 (ids_c hq0 0 (by decide)) (eC0 hq0 _) rfl dX1_passTick_54 ?_
      refine G_aload_n (pc := 57) h.1 dX1_passTick_57 rfl 0 rfl ?_
      refine G_get (pc := 58) (v := .ref (y.2.1 (cI q0 9))) h.1 fl_X1_36 (ids_c hq0 0 (by decide)) (eC0 hq0 _) rfl dX1_passTick_58 ?_
      refine G_iload_n (pc := 61) h.1 dX1_passTick_61 rfl 1 rfl ?_
      refine G_iald (pc := 62) h.1 (ids_c hq0 9 (by decide)) (eC9 hq0 _) dX1_passTick_62 ?_
      refine G_icmp_gt (pc := 63) (tgt := 81) h.1 dX1_passTick_63 (by decide) ?_ ?_
      · exact G_sub [0, 1] rfl (gd_X1_passTick_B81 hy h q0 hq0 kx1 kb a1 hx1 hb M)
      · refine G_aload_n (pc := 66) h.1 dX1_passTick_66 rfl 0 rfl ?_
        refine G_get (pc := 67) (v := .ref (y.2.1 (cI q0 2))) h.1 fl_X1_15 (ids_c hq0 0 (by decide)) (eC0 hq0 _) rfl dX1_passTick_67 ?_
        refine G_iload_n (pc := 70) h.1 dX1_passTick_70 rfl 1 rfl ?_
        refine G_iald (pc := 71) h.1 (ids_c hq0 2 (by decide)) (eC2 hq0 _) dX1_passTick_71 ?_
        refine G_iconst (pc := 72) (v := (3)) h.1 dX1_passTick_72 (by decide) ?_
        refine G_icmp_eq (pc := 73) (tgt := 81) h.1 dX1_passTick_73 (by decide) ?_ ?_
        · exact G_sub [0, 1] rfl (gd_X1_passTick_B81 hy h q0 hq0 kx1 kb a1 hx1 hb M)
        · refine G_aload_n (pc := 76) h.1 dX1_passTick_76 rfl 0 rfl ?_
          refine G_iload_n (pc := 77) h.1 dX1_passTick_77 rfl 1 rfl ?_
          refine G_callVv (pc := 78) (As := [.int a1]) (rest := []) h.1 h.2.2.1 lk_X1_123 (ids_c hq0 0 (by decide)) (eC0 hq0 _) rfl rfl (c_X1_drawFor x.1.2.1 y hy q0 hq0 a1 M) rfl rfl (Nat.le_of_ble_eq_true rfl) ⟨rfl, rfl, Nat.le_of_ble_eq_true rfl, Nat.le_of_ble_eq_true rfl⟩ dX1_passTick_78 (fun r5 M4 => ?_)
          exact G_sub [0, 1] rfl (gd_X1_passTick_B81 hy h q0 hq0 kx1 kb a1 hx1 hb M4)
set_option maxRecDepth 20000 in
theorem gd_X1_passTick_L32 {x : Cx} {y : Cy} (hy : Inj y) (h : OkM x y cX1_passTick RX1 2 none rX1_passTick) (q0 : Nat) (hq0 : q0 < 2) (kx1 : Mem → Ans) (hx1 : ∀ M0 : Mem, G x y 87 [(0, .ref (y.2.1 (cI q0 0)))] [] M0 (kx1 M0)) : ∀ (n : Nat) (a1 : Int32) (M : Mem), G x y 32 [(0, .ref (y.2.1 (cI q0 0))), (1, .int a1)] [] M (d_X1_passTick_L32 q0 kx1 n a1 M) := by
  intro n
  induction n with
  | zero => intro a1 M; exact G_none
  | succ n ih => intro a1 M; exact gd_X1_passTick_L32_body hy h q0 hq0 kx1 hx1 _ ih a1 M
set_option maxRecDepth 20000 in
theorem c_X1_passTick (l : Launch) (y : Cy) (hy : Inj y) (q0 : Nat) (hq0 : q0 < 2) (M : Mem) : CT l y yX1_passTick cX1_passTick 2 none rX1_passTick [.ref (y.2.1 (cI q0 0))] M (d_X1_passTick q0 M) := by
  refine CT_of (by decide) hy (Nat.le_of_ble_eq_true rfl) (fun x hxl h => ?_)
  show G x y 0 [(0, .ref (y.2.1 (cI q0 0)))] [] M _
  unfold d_X1_passTick
  refine G_aload_n (pc := 0) h.1 dX1_passTick_0 rfl 0 rfl ?_
  refine G_dup (pc := 1) h.1 dX1_passTick_1 rfl ?_
  refine G_get (pc := 2) (v := .int (M (cI q0 0) 0)) h.1 fl_X1_49 (ids_c hq0 0 (by decide)) (eC0 hq0 _) rfl dX1_passTick_2 ?_
  refine G_iconst (pc := 5) (v := (1)) h.1 dX1_passTick_5 (by decide) ?_
  refine G_iadd (pc := 6) h.1 dX1_passTick_6 ?_
  refine G_put (pc := 7) h.1 fp_X1_49 (ids_c hq0 0 (by decide)) (fun m => eC0 hq0 m) (fun _ => rfl) (fun _ => Nat.le_of_ble_eq_true rfl) rfl rfl dX1_passTick_7 (fun M1 => ?_)
  refine G_aload_n (pc := 10) h.1 dX1_passTick_10 rfl 0 rfl ?_
  refine G_aload_n (pc := 11) h.1 dX1_passTick_11 rfl 0 rfl ?_
  refine G_get (pc := 12) (v := .int (M1 (cI q0 0) 2)) h.1 fl_X1_57 (ids_c hq0 0 (by decide)) (eC0 hq0 _) rfl dX1_passTick_12 ?_
  refine G_aload_n (pc := 15) h.1 dX1_passTick_15 rfl 0 rfl ?_
  refine G_get (pc := 16) (v := .int (M1 (cI q0 0) 1)) h.1 fl_X1_53 (ids_c hq0 0 (by decide)) (eC0 hq0 _) rfl dX1_passTick_16 ?_
  refine G_aload_n (pc := 19) h.1 dX1_passTick_19 rfl 0 rfl ?_
  refine G_get (pc := 20) (v := .int (M1 (cI q0 0) 3)) h.1 fl_X1_61 (ids_c hq0 0 (by decide)) (eC0 hq0 _) rfl dX1_passTick_20 ?_
  refine G_iadd (pc := 23) h.1 dX1_passTick_23 ?_
  refine G_mmin (pc := 24) h.1 h.2.2.1 mm_X1_117 dX1_passTick_24 (Nat.le_of_ble_eq_true rfl) (Nat.le_of_ble_eq_true rfl) ?_
  refine G_put (pc := 27) h.1 fp_X1_53 (ids_c hq0 0 (by decide)) (fun m => eC0 hq0 m) (fun _ => rfl) (fun _ => Nat.le_of_ble_eq_true rfl) rfl rfl dX1_passTick_27 (fun M2 => ?_)
  refine G_iconst (pc := 30) (v := (0)) h.1 dX1_passTick_30 (by decide) ?_
  refine G_istore_n (pc := 31) h.1 h.2.1 [(1, .int (0 : Int32)), (0, .ref (y.2.1 (cI q0 0)))] dX1_passTick_31 rfl (by decide) rfl ?_
  refine G_sub [1, 0] rfl (gd_X1_passTick_L32 hy h q0 hq0 _ (fun M6 => ?_) fuelN (0 : Int32) M2)
  refine G_aload_n (pc := 87) h.1 dX1_passTick_87 rfl 0 rfl ?_
  refine G_aload_n (pc := 88) h.1 dX1_passTick_88 rfl 0 rfl ?_
  refine G_get (pc := 89) (v := .int (M6 (cI q0 0) 4)) h.1 fl_X1_63 (ids_c hq0 0 (by decide)) (eC0 hq0 _) rfl dX1_passTick_89 ?_
  refine G_aload_n (pc := 92) h.1 dX1_passTick_92 rfl 0 rfl ?_
  refine G_get (pc := 93) (v := .int (M6 (cI q0 0) 1)) h.1 fl_X1_53 (ids_c hq0 0 (by decide)) (eC0 hq0 _) rfl dX1_passTick_93 ?_
  refine G_mmin (pc := 96) h.1 h.2.2.1 mm_X1_117 dX1_passTick_96 (Nat.le_of_ble_eq_true rfl) (Nat.le_of_ble_eq_true rfl) ?_
  refine G_put (pc := 99) h.1 fp_X1_63 (ids_c hq0 0 (by decide)) (fun m => eC0 hq0 m) (fun _ => rfl) (fun _ => Nat.le_of_ble_eq_true rfl) rfl rfl dX1_passTick_99 (fun M7 => ?_)
  exact G_vret (pc := 102) h dX1_passTick_102
theorem dX1_passTicks_0 : decode cX1_passTicks 0 = .ok (.iconst 0, 1) := by decide +kernel
theorem dX1_passTicks_1 : decode cX1_passTicks 1 = .ok (.istore_n 2, 1) := by decide +kernel
theorem dX1_passTicks_2 : decode cX1_passTicks 2 = .ok (.iload_n 2, 1) := by decide +kernel
theorem dX1_passTicks_3 : decode cX1_passTicks 3 = .ok (.iload_n 1, 1) := by decide +kernel
theorem dX1_passTicks_4 : decode cX1_passTicks 4 = .ok (.if_icmp .ge 13, 3) := by decide +kernel
theorem dX1_passTicks_7 : decode cX1_passTicks 7 = .ok (.aload_n 0, 1) := by decide +kernel
theorem dX1_passTicks_8 : decode cX1_passTicks 8 = .ok (.invokevirtual 114, 3) := by decide +kernel
theorem dX1_passTicks_11 : decode cX1_passTicks 11 = .ok (.iinc 2 1, 3) := by decide +kernel
theorem dX1_passTicks_14 : decode cX1_passTicks 14 = .ok (.goto (-12), 3) := by decide +kernel
theorem dX1_passTicks_17 : decode cX1_passTicks 17 = .ok (.return_, 1) := by decide +kernel
abbrev rX1_passTicks : Room := { frames := 2, cells := 0, slots := 0, locals := 44 }
set_option maxRecDepth 20000 in
theorem gd_X1_passTicks_L2_body {x : Cx} {y : Cy} (hy : Inj y) (h : OkM x y cX1_passTicks RX1 3 none rX1_passTicks) (q0 : Nat) (hq0 : q0 < 2) (a1 : Int32) (kx1 : Mem → Ans) (hx1 : ∀ M0 : Mem, G x y 17 [] [] M0 (kx1 M0)) (kb : Int32 → Mem → Ans) (hb : ∀ (b2 : Int32), ∀ M0 : Mem, G x y 2 [(0, .ref (y.2.1 (cI q0 0))), (1, .int a1), (2, .int b2)] [] M0 (kb b2 M0)) (a2 : Int32) (M : Mem) : G x y 2 [(0, .ref (y.2.1 (cI q0 0))), (1, .int a1), (2, .int a2)] [] M (d_X1_passTicks_L2_body q0 a1 kx1 kb a2 M) := by
  unfold d_X1_passTicks_L2_body
  refine G_iload_n (pc := 2) h.1 dX1_passTicks_2 rfl 2 rfl ?_
  refine G_iload_n (pc := 3) h.1 dX1_passTicks_3 rfl 1 rfl ?_
  refine G_icmp_ge (pc := 4) (tgt := 17) h.1 dX1_passTicks_4 (by decide) ?_ ?_
  · exact G_sub [] rfl (hx1 M)
  · refine G_aload_n (pc := 7) h.1 dX1_passTicks_7 rfl 0 rfl ?_
    refine G_callVv (pc := 8) (As := []) (rest := []) h.1 h.2.2.1 lk_X1_114 (ids_c hq0 0 (by decide)) (eC0 hq0 _) rfl rfl (c_X1_passTick x.1.2.1 y hy q0 hq0 M) rfl rfl (Nat.le_of_ble_eq_true rfl) ⟨rfl, rfl, Nat.le_of_ble_eq_true rfl, Nat.le_of_ble_eq_true rfl⟩ dX1_passTicks_8 (fun r2 M1 => ?_)
    refine G_iinc (pc := 11) (v := a2 + (1)) h.1 h.2.1 (fun v3 => [(2, .int v3), (0, .ref (y.2.1 (cI q0 0))), (1, .int a1)]) dX1_passTicks_11 (by decide) 2 rfl rfl (fun _ => rfl) (fun v3 => ?_)
    refine G_goto (pc := 14) (tgt := 2) h.1 dX1_passTicks_14 (by decide) ?_
    exact G_sub [1, 2, 0] rfl (hb v3 M1)
set_option maxRecDepth 20000 in
theorem gd_X1_passTicks_L2 {x : Cx} {y : Cy} (hy : Inj y) (h : OkM x y cX1_passTicks RX1 3 none rX1_passTicks) (q0 : Nat) (hq0 : q0 < 2) (a1 : Int32) (kx1 : Mem → Ans) (hx1 : ∀ M0 : Mem, G x y 17 [] [] M0 (kx1 M0)) : ∀ (n : Nat) (a2 : Int32) (M : Mem), G x y 2 [(0, .ref (y.2.1 (cI q0 0))), (1, .int a1), (2, .int a2)] [] M (d_X1_passTicks_L2 q0 a1 kx1 n a2 M) := by
  intro n
  induction n with
  | zero => intro a2 M; exact G_none
  | succ n ih => intro a2 M; exact gd_X1_passTicks_L2_body hy h q0 hq0 a1 kx1 hx1 _ ih a2 M
set_option maxRecDepth 20000 in
theorem c_X1_passTicks (l : Launch) (y : Cy) (hy : Inj y) (q0 : Nat) (hq0 : q0 < 2) (p1 : Int32) (M : Mem) : CT l y yX1_passTicks cX1_passTicks 3 none rX1_passTicks [.ref (y.2.1 (cI q0 0)), .int p1] M (d_X1_passTicks q0 p1 M) := by
  refine CT_of (by decide) hy (Nat.le_of_ble_eq_true rfl) (fun x hxl h => ?_)
  show G x y 0 [(0, .ref (y.2.1 (cI q0 0))), (1, .int p1)] [] M _
  unfold d_X1_passTicks
  refine G_iconst (pc := 0) (v := (0)) h.1 dX1_passTicks_0 (by decide) ?_
  refine G_istore_n (pc := 1) h.1 h.2.1 [(2, .int (0 : Int32)), (0, .ref (y.2.1 (cI q0 0))), (1, .int p1)] dX1_passTicks_1 rfl (by decide) rfl ?_
  refine G_sub [1, 2, 0] rfl (gd_X1_passTicks_L2 hy h q0 hq0 p1 _ (fun M4 => ?_) fuelN (0 : Int32) M)
  exact G_vret (pc := 17) h dX1_passTicks_17
theorem dX1_passToEnd_0 : decode cX1_passToEnd 0 = .ok (.iconst 0, 1) := by decide +kernel
theorem dX1_passToEnd_1 : decode cX1_passToEnd 1 = .ok (.istore_n 1, 1) := by decide +kernel
theorem dX1_passToEnd_2 : decode cX1_passToEnd 2 = .ok (.iload_n 1, 1) := by decide +kernel
theorem dX1_passToEnd_3 : decode cX1_passToEnd 3 = .ok (.bipush 80, 2) := by decide +kernel
theorem dX1_passToEnd_5 : decode cX1_passToEnd 5 = .ok (.if_icmp .ge 20, 3) := by decide +kernel
theorem dX1_passToEnd_8 : decode cX1_passToEnd 8 = .ok (.aload_n 0, 1) := by decide +kernel
theorem dX1_passToEnd_9 : decode cX1_passToEnd 9 = .ok (.getfield 94, 3) := by decide +kernel
theorem dX1_passToEnd_12 : decode cX1_passToEnd 12 = .ok (.ifCond .le 13, 3) := by decide +kernel
theorem dX1_passToEnd_15 : decode cX1_passToEnd 15 = .ok (.aload_n 0, 1) := by decide +kernel
theorem dX1_passToEnd_16 : decode cX1_passToEnd 16 = .ok (.invokevirtual 114, 3) := by decide +kernel
theorem dX1_passToEnd_19 : decode cX1_passToEnd 19 = .ok (.iinc 1 1, 3) := by decide +kernel
theorem dX1_passToEnd_22 : decode cX1_passToEnd 22 = .ok (.goto (-20), 3) := by decide +kernel
theorem dX1_passToEnd_25 : decode cX1_passToEnd 25 = .ok (.return_, 1) := by decide +kernel
abbrev rX1_passToEnd : Room := { frames := 2, cells := 0, slots := 0, locals := 44 }
set_option maxRecDepth 20000 in
theorem gd_X1_passToEnd_L2_body {x : Cx} {y : Cy} (hy : Inj y) (h : OkM x y cX1_passToEnd RX1 2 none rX1_passToEnd) (q0 : Nat) (hq0 : q0 < 2) (kx1 : Mem → Ans) (hx1 : ∀ M0 : Mem, G x y 25 [] [] M0 (kx1 M0)) (kb : Int32 → Mem → Ans) (hb : ∀ (b1 : Int32), ∀ M0 : Mem, G x y 2 [(0, .ref (y.2.1 (cI q0 0))), (1, .int b1)] [] M0 (kb b1 M0)) (a1 : Int32) (M : Mem) : G x y 2 [(0, .ref (y.2.1 (cI q0 0))), (1, .int a1)] [] M (d_X1_passToEnd_L2_body q0 kx1 kb a1 M) := by
  unfold d_X1_passToEnd_L2_body
  refine G_iload_n (pc := 2) h.1 dX1_passToEnd_2 rfl 1 rfl ?_
  refine G_bipush (pc := 3) (v := (80)) h.1 dX1_passToEnd_3 (by decide) ?_
  refine G_icmp_ge (pc := 5) (tgt := 25) h.1 dX1_passToEnd_5 (by decide) ?_ ?_
  · exact G_sub [] rfl (hx1 M)
  · refine G_aload_n (pc := 8) h.1 dX1_passToEnd_8 rfl 0 rfl ?_
    refine G_get (pc := 9) (v := .int (M (cI q0 0) 7)) h.1 fl_X1_94 (ids_c hq0 0 (by decide)) (eC0 hq0 _) rfl dX1_passToEnd_9 ?_
    refine G_if_le (pc := 12) (tgt := 25) h.1 dX1_passToEnd_12 (by decide) ?_ ?_
    · exact G_sub [] rfl (hx1 M)
    · refine G_aload_n (pc := 15) h.1 dX1_passToEnd_15 rfl 0 rfl ?_
      refine G_callVv (pc := 16) (As := []) (rest := []) h.1 h.2.2.1 lk_X1_114 (ids_c hq0 0 (by decide)) (eC0 hq0 _) rfl rfl (c_X1_passTick x.1.2.1 y hy q0 hq0 M) rfl rfl (Nat.le_of_ble_eq_true rfl) ⟨rfl, rfl, Nat.le_of_ble_eq_true rfl, Nat.le_of_ble_eq_true rfl⟩ dX1_passToEnd_16 (fun r2 M1 => ?_)
      refine G_iinc (pc := 19) (v := a1 + (1)) h.1 h.2.1 (fun v3 => [(1, .int v3), (0, .ref (y.2.1 (cI q0 0)))]) dX1_passToEnd_19 (by decide) 1 rfl rfl (fun _ => rfl) (fun v3 => ?_)
      refine G_goto (pc := 22) (tgt := 2) h.1 dX1_passToEnd_22 (by decide) ?_
      exact G_sub [1, 0] rfl (hb v3 M1)
set_option maxRecDepth 20000 in
theorem gd_X1_passToEnd_L2 {x : Cx} {y : Cy} (hy : Inj y) (h : OkM x y cX1_passToEnd RX1 2 none rX1_passToEnd) (q0 : Nat) (hq0 : q0 < 2) (kx1 : Mem → Ans) (hx1 : ∀ M0 : Mem, G x y 25 [] [] M0 (kx1 M0)) : ∀ (n : Nat) (a1 : Int32) (M : Mem), G x y 2 [(0, .ref (y.2.1 (cI q0 0))), (1, .int a1)] [] M (d_X1_passToEnd_L2 q0 kx1 n a1 M) := by
  intro n
  induction n with
  | zero => intro a1 M; exact G_none
  | succ n ih => intro a1 M; exact gd_X1_passToEnd_L2_body hy h q0 hq0 kx1 hx1 _ ih a1 M
set_option maxRecDepth 20000 in
theorem c_X1_passToEnd (l : Launch) (y : Cy) (hy : Inj y) (q0 : Nat) (hq0 : q0 < 2) (M : Mem) : CT l y yX1_passToEnd cX1_passToEnd 2 none rX1_passToEnd [.ref (y.2.1 (cI q0 0))] M (d_X1_passToEnd q0 M) := by
  refine CT_of (by decide) hy (Nat.le_of_ble_eq_true rfl) (fun x hxl h => ?_)
  show G x y 0 [(0, .ref (y.2.1 (cI q0 0)))] [] M _
  unfold d_X1_passToEnd
  refine G_iconst (pc := 0) (v := (0)) h.1 dX1_passToEnd_0 (by decide) ?_
  refine G_istore_n (pc := 1) h.1 h.2.1 [(1, .int (0 : Int32)), (0, .ref (y.2.1 (cI q0 0)))] dX1_passToEnd_1 rfl (by decide) rfl ?_
  refine G_sub [1, 0] rfl (gd_X1_passToEnd_L2 hy h q0 hq0 _ (fun M4 => ?_) fuelN (0 : Int32) M)
  exact G_vret (pc := 25) h dX1_passToEnd_25
theorem dX1_rowOf_0 : decode cX1_rowOf 0 = .ok (.iconst 0, 1) := by decide +kernel
theorem dX1_rowOf_1 : decode cX1_rowOf 1 = .ok (.istore_n 2, 1) := by decide +kernel
theorem dX1_rowOf_2 : decode cX1_rowOf 2 = .ok (.iload_n 2, 1) := by decide +kernel
theorem dX1_rowOf_3 : decode cX1_rowOf 3 = .ok (.aload_n 0, 1) := by decide +kernel
theorem dX1_rowOf_4 : decode cX1_rowOf 4 = .ok (.getfield 69, 3) := by decide +kernel
theorem dX1_rowOf_7 : decode cX1_rowOf 7 = .ok (.if_icmp .ge 21, 3) := by decide +kernel
theorem dX1_rowOf_10 : decode cX1_rowOf 10 = .ok (.aload_n 0, 1) := by decide +kernel
theorem dX1_rowOf_11 : decode cX1_rowOf 11 = .ok (.getfield 11, 3) := by decide +kernel
theorem dX1_rowOf_14 : decode cX1_rowOf 14 = .ok (.iload_n 2, 1) := by decide +kernel
theorem dX1_rowOf_15 : decode cX1_rowOf 15 = .ok (.iaload, 1) := by decide +kernel
theorem dX1_rowOf_16 : decode cX1_rowOf 16 = .ok (.iload_n 1, 1) := by decide +kernel
theorem dX1_rowOf_17 : decode cX1_rowOf 17 = .ok (.if_icmp .ne 5, 3) := by decide +kernel
theorem dX1_rowOf_20 : decode cX1_rowOf 20 = .ok (.iload_n 2, 1) := by decide +kernel
theorem dX1_rowOf_21 : decode cX1_rowOf 21 = .ok (.ireturn, 1) := by decide +kernel
theorem dX1_rowOf_22 : decode cX1_rowOf 22 = .ok (.iinc 2 1, 3) := by decide +kernel
theorem dX1_rowOf_25 : decode cX1_rowOf 25 = .ok (.goto (-23), 3) := by decide +kernel
theorem dX1_rowOf_28 : decode cX1_rowOf 28 = .ok (.iconst (-1), 1) := by decide +kernel
theorem dX1_rowOf_29 : decode cX1_rowOf 29 = .ok (.ireturn, 1) := by decide +kernel
abbrev rX1_rowOf : Room := { frames := 0, cells := 0, slots := 0, locals := 0 }
set_option maxRecDepth 20000 in
theorem gd_X1_rowOf_L2_body {x : Cx} {y : Cy} (hy : Inj y) (h : OkM x y cX1_rowOf RX1 3 (some .int) rX1_rowOf) (q0 : Nat) (hq0 : q0 < 2) (a1 : Int32) (kx1 : Mem → Ans) (hx1 : ∀ M0 : Mem, G x y 28 [] [] M0 (kx1 M0)) (kb : Int32 → Mem → Ans) (hb : ∀ (b2 : Int32), ∀ M0 : Mem, G x y 2 [(0, .ref (y.2.1 (cI q0 0))), (1, .int a1), (2, .int b2)] [] M0 (kb b2 M0)) (a2 : Int32) (M : Mem) : G x y 2 [(0, .ref (y.2.1 (cI q0 0))), (1, .int a1), (2, .int a2)] [] M (d_X1_rowOf_L2_body q0 a1 kx1 kb a2 M) := by
  unfold d_X1_rowOf_L2_body
  refine G_iload_n (pc := 2) h.1 dX1_rowOf_2 rfl 2 rfl ?_
  refine G_aload_n (pc := 3) h.1 dX1_rowOf_3 rfl 0 rfl ?_
  refine G_get (pc := 4) (v := .int (M (cI q0 0) 6)) h.1 fl_X1_69 (ids_c hq0 0 (by decide)) (eC0 hq0 _) rfl dX1_rowOf_4 ?_
  refine G_icmp_ge (pc := 7) (tgt := 28) h.1 dX1_rowOf_7 (by decide) ?_ ?_
  · exact G_sub [] rfl (hx1 M)
  · refine G_aload_n (pc := 10) h.1 dX1_rowOf_10 rfl 0 rfl ?_
    refine G_get (pc := 11) (v := .ref (y.2.1 (cI q0 1))) h.1 fl_X1_11 (ids_c hq0 0 (by decide)) (eC0 hq0 _) rfl dX1_rowOf_11 ?_
    refine G_iload_n (pc := 14) h.1 dX1_rowOf_14 rfl 2 rfl ?_
    refine G_iald (pc := 15) h.1 (ids_c hq0 1 (by decide)) (eC1 hq0 _) dX1_rowOf_15 ?_
    refine G_iload_n (pc := 16) h.1 dX1_rowOf_16 rfl 1 rfl ?_
    refine G_icmp_ne (pc := 17) (tgt := 22) h.1 dX1_rowOf_17 (by decide) ?_ ?_
    · refine G_iinc (pc := 22) (v := a2 + (1)) h.1 h.2.1 (fun v1 => [(2, .int v1), (0, .ref (y.2.1 (cI q0 0))), (1, .int a1)]) dX1_rowOf_22 (by decide) 2 rfl rfl (fun _ => rfl) (fun v1 => ?_)
      refine G_goto (pc := 25) (tgt := 2) h.1 dX1_rowOf_25 (by decide) ?_
      exact G_sub [1, 2, 0] rfl (hb v1 M)
    · refine G_iload_n (pc := 20) h.1 dX1_rowOf_20 rfl 2 rfl ?_
      exact G_ret (pc := 21) h rfl dX1_rowOf_21
set_option maxRecDepth 20000 in
theorem gd_X1_rowOf_L2 {x : Cx} {y : Cy} (hy : Inj y) (h : OkM x y cX1_rowOf RX1 3 (some .int) rX1_rowOf) (q0 : Nat) (hq0 : q0 < 2) (a1 : Int32) (kx1 : Mem → Ans) (hx1 : ∀ M0 : Mem, G x y 28 [] [] M0 (kx1 M0)) : ∀ (n : Nat) (a2 : Int32) (M : Mem), G x y 2 [(0, .ref (y.2.1 (cI q0 0))), (1, .int a1), (2, .int a2)] [] M (d_X1_rowOf_L2 q0 a1 kx1 n a2 M) := by
  intro n
  induction n with
  | zero => intro a2 M; exact G_none
  | succ n ih => intro a2 M; exact gd_X1_rowOf_L2_body hy h q0 hq0 a1 kx1 hx1 _ ih a2 M
set_option maxRecDepth 20000 in
theorem c_X1_rowOf (l : Launch) (y : Cy) (hy : Inj y) (q0 : Nat) (hq0 : q0 < 2) (p1 : Int32) (M : Mem) : CT l y yX1_rowOf cX1_rowOf 3 (some .int) rX1_rowOf [.ref (y.2.1 (cI q0 0)), .int p1] M (d_X1_rowOf q0 p1 M) := by
  refine CT_of (by decide) hy (Nat.le_of_ble_eq_true rfl) (fun x hxl h => ?_)
  show G x y 0 [(0, .ref (y.2.1 (cI q0 0))), (1, .int p1)] [] M _
  unfold d_X1_rowOf
  refine G_iconst (pc := 0) (v := (0)) h.1 dX1_rowOf_0 (by decide) ?_
  refine G_istore_n (pc := 1) h.1 h.2.1 [(2, .int (0 : Int32)), (0, .ref (y.2.1 (cI q0 0))), (1, .int p1)] dX1_rowOf_1 rfl (by decide) rfl ?_
  refine G_sub [1, 2, 0] rfl (gd_X1_rowOf_L2 hy h q0 hq0 p1 _ (fun M2 => ?_) fuelN (0 : Int32) M)
  refine G_iconst (pc := 28) (v := (-1)) h.1 dX1_rowOf_28 (by decide) ?_
  exact G_ret (pc := 29) h rfl dX1_rowOf_29
theorem dX1_countSpoiled_0 : decode cX1_countSpoiled 0 = .ok (.iconst 0, 1) := by decide +kernel
theorem dX1_countSpoiled_1 : decode cX1_countSpoiled 1 = .ok (.istore_n 1, 1) := by decide +kernel
theorem dX1_countSpoiled_2 : decode cX1_countSpoiled 2 = .ok (.iconst 0, 1) := by decide +kernel
theorem dX1_countSpoiled_3 : decode cX1_countSpoiled 3 = .ok (.istore_n 2, 1) := by decide +kernel
theorem dX1_countSpoiled_4 : decode cX1_countSpoiled 4 = .ok (.iload_n 2, 1) := by decide +kernel
theorem dX1_countSpoiled_5 : decode cX1_countSpoiled 5 = .ok (.aload_n 0, 1) := by decide +kernel
theorem dX1_countSpoiled_6 : decode cX1_countSpoiled 6 = .ok (.getfield 69, 3) := by decide +kernel
theorem dX1_countSpoiled_9 : decode cX1_countSpoiled 9 = .ok (.if_icmp .ge 22, 3) := by decide +kernel
theorem dX1_countSpoiled_12 : decode cX1_countSpoiled 12 = .ok (.aload_n 0, 1) := by decide +kernel
theorem dX1_countSpoiled_13 : decode cX1_countSpoiled 13 = .ok (.getfield 15, 3) := by decide +kernel
theorem dX1_countSpoiled_16 : decode cX1_countSpoiled 16 = .ok (.iload_n 2, 1) := by decide +kernel
theorem dX1_countSpoiled_17 : decode cX1_countSpoiled 17 = .ok (.iaload, 1) := by decide +kernel
theorem dX1_countSpoiled_18 : decode cX1_countSpoiled 18 = .ok (.iconst 3, 1) := by decide +kernel
theorem dX1_countSpoiled_19 : decode cX1_countSpoiled 19 = .ok (.if_icmp .ne 6, 3) := by decide +kernel
theorem dX1_countSpoiled_22 : decode cX1_countSpoiled 22 = .ok (.iinc 1 1, 3) := by decide +kernel
theorem dX1_countSpoiled_25 : decode cX1_countSpoiled 25 = .ok (.iinc 2 1, 3) := by decide +kernel
theorem dX1_countSpoiled_28 : decode cX1_countSpoiled 28 = .ok (.goto (-24), 3) := by decide +kernel
theorem dX1_countSpoiled_31 : decode cX1_countSpoiled 31 = .ok (.iload_n 1, 1) := by decide +kernel
theorem dX1_countSpoiled_32 : decode cX1_countSpoiled 32 = .ok (.ireturn, 1) := by decide +kernel
abbrev rX1_countSpoiled : Room := { frames := 0, cells := 0, slots := 0, locals := 0 }
set_option maxRecDepth 20000 in
theorem gd_X1_countSpoiled_B25 {x : Cx} {y : Cy} (hy : Inj y) (h : OkM x y cX1_countSpoiled RX1 3 (some .int) rX1_countSpoiled) (q0 : Nat) (hq0 : q0 < 2) (kx1 : Int32 → Mem → Ans) (kb : Int32 → Int32 → Mem → Ans) (a1 : Int32) (a2 : Int32) (hx1 : ∀ (b1 : Int32), ∀ M0 : Mem, G x y 31 [(1, .int b1)] [] M0 (kx1 b1 M0)) (hb : ∀ (b1 b2 : Int32), ∀ M0 : Mem, G x y 4 [(0, .ref (y.2.1 (cI q0 0))), (1, .int b1), (2, .int b2)] [] M0 (kb b1 b2 M0)) (M : Mem) : G x y 25 [(0, .ref (y.2.1 (cI q0 0))), (1, .int a1), (2, .int a2)] [] M (d_X1_countSpoiled_B25 q0 kx1 kb a1 a2 M) := by
  unfold d_X1_countSpoiled_B25
  refine G_iinc (pc := 25) (v := a2 + (1)) h.1 h.2.1 (fun v1 => [(2, .int v1), (0, .ref (y.2.1 (cI q0 0))), (1, .int a1)]) dX1_countSpoiled_25 (by decide) 2 rfl rfl (fun _ => rfl) (fun v1 => ?_)
  refine G_goto (pc := 28) (tgt := 4) h.1 dX1_countSpoiled_28 (by decide) ?_
  exact G_sub [1, 2, 0] rfl (hb a1 v1 M)
set_option maxRecDepth 20000 in
theorem gd_X1_countSpoiled_L4_body {x : Cx} {y : Cy} (hy : Inj y) (h : OkM x y cX1_countSpoiled RX1 3 (some .int) rX1_countSpoiled) (q0 : Nat) (hq0 : q0 < 2) (kx1 : Int32 → Mem → Ans) (hx1 : ∀ (b1 : Int32), ∀ M0 : Mem, G x y 31 [(1, .int b1)] [] M0 (kx1 b1 M0)) (kb : Int32 → Int32 → Mem → Ans) (hb : ∀ (b1 b2 : Int32), ∀ M0 : Mem, G x y 4 [(0, .ref (y.2.1 (cI q0 0))), (1, .int b1), (2, .int b2)] [] M0 (kb b1 b2 M0)) (a1 : Int32) (a2 : Int32) (M : Mem) : G x y 4 [(0, .ref (y.2.1 (cI q0 0))), (1, .int a1), (2, .int a2)] [] M (d_X1_countSpoiled_L4_body q0 kx1 kb a1 a2 M) := by
  unfold d_X1_countSpoiled_L4_body
  refine G_iload_n (pc := 4) h.1 dX1_countSpoiled_4 rfl 2 rfl ?_
  refine G_aload_n (pc := 5) h.1 dX1_countSpoiled_5 rfl 0 rfl ?_
  refine G_get (pc := 6) (v := .int (M (cI q0 0) 6)) h.1 fl_X1_69 (ids_c hq0 0 (by decide)) (eC0 hq0 _) rfl dX1_countSpoiled_6 ?_
  refine G_icmp_ge (pc := 9) (tgt := 31) h.1 dX1_countSpoiled_9 (by decide) ?_ ?_
  · exact G_sub [1] rfl (hx1 a1 M)
  · refine G_aload_n (pc := 12) h.1 dX1_countSpoiled_12 rfl 0 rfl ?_
    refine G_get (pc := 13) (v := .ref (y.2.1 (cI q0 2))) h.1 fl_X1_15 (ids_c hq0 0 (by decide)) (eC0 hq0 _) rfl dX1_countSpoiled_13 ?_
    refine G_iload_n (pc := 16) h.1 dX1_countSpoiled_16 rfl 2 rfl ?_
    refine G_iald (pc := 17) h.1 (ids_c hq0 2 (by decide)) (eC2 hq0 _) dX1_countSpoiled_17 ?_
    refine G_iconst (pc := 18) (v := (3)) h.1 dX1_countSpoiled_18 (by decide) ?_
    refine G_icmp_ne (pc := 19) (tgt := 25) h.1 dX1_countSpoiled_19 (by decide) ?_ ?_
    · exact G_sub [0, 1, 2] rfl (gd_X1_countSpoiled_B25 hy h q0 hq0 kx1 kb a1 a2 hx1 hb M)
    · refine G_iinc (pc := 22) (v := a1 + (1)) h.1 h.2.1 (fun v2 => [(1, .int v2), (0, .ref (y.2.1 (cI q0 0))), (2, .int a2)]) dX1_countSpoiled_22 (by decide) 1 rfl rfl (fun _ => rfl) (fun v2 => ?_)
      exact G_sub [1, 0, 2] rfl (gd_X1_countSpoiled_B25 hy h q0 hq0 kx1 kb v2 a2 hx1 hb M)
set_option maxRecDepth 20000 in
theorem gd_X1_countSpoiled_L4 {x : Cx} {y : Cy} (hy : Inj y) (h : OkM x y cX1_countSpoiled RX1 3 (some .int) rX1_countSpoiled) (q0 : Nat) (hq0 : q0 < 2) (kx1 : Int32 → Mem → Ans) (hx1 : ∀ (b1 : Int32), ∀ M0 : Mem, G x y 31 [(1, .int b1)] [] M0 (kx1 b1 M0)) : ∀ (n : Nat) (a1 : Int32) (a2 : Int32) (M : Mem), G x y 4 [(0, .ref (y.2.1 (cI q0 0))), (1, .int a1), (2, .int a2)] [] M (d_X1_countSpoiled_L4 q0 kx1 n a1 a2 M) := by
  intro n
  induction n with
  | zero => intro a1 a2 M; exact G_none
  | succ n ih => intro a1 a2 M; exact gd_X1_countSpoiled_L4_body hy h q0 hq0 kx1 hx1 _ ih a1 a2 M
set_option maxRecDepth 20000 in
theorem c_X1_countSpoiled (l : Launch) (y : Cy) (hy : Inj y) (q0 : Nat) (hq0 : q0 < 2) (M : Mem) : CT l y yX1_countSpoiled cX1_countSpoiled 3 (some .int) rX1_countSpoiled [.ref (y.2.1 (cI q0 0))] M (d_X1_countSpoiled q0 M) := by
  refine CT_of (by decide) hy (Nat.le_of_ble_eq_true rfl) (fun x hxl h => ?_)
  show G x y 0 [(0, .ref (y.2.1 (cI q0 0)))] [] M _
  unfold d_X1_countSpoiled
  refine G_iconst (pc := 0) (v := (0)) h.1 dX1_countSpoiled_0 (by decide) ?_
  refine G_istore_n (pc := 1) h.1 h.2.1 [(1, .int (0 : Int32)), (0, .ref (y.2.1 (cI q0 0)))] dX1_countSpoiled_1 rfl (by decide) rfl ?_
  refine G_iconst (pc := 2) (v := (0)) h.1 dX1_countSpoiled_2 (by decide) ?_
  refine G_istore_n (pc := 3) h.1 h.2.1 [(2, .int (0 : Int32)), (1, .int (0 : Int32)), (0, .ref (y.2.1 (cI q0 0)))] dX1_countSpoiled_3 rfl (by decide) rfl ?_
  refine G_sub [2, 1, 0] rfl (gd_X1_countSpoiled_L4 hy h q0 hq0 _ (fun v3 M4 => ?_) fuelN (0 : Int32) (0 : Int32) M)
  refine G_iload_n (pc := 31) h.1 dX1_countSpoiled_31 rfl 0 rfl ?_
  exact G_ret (pc := 32) h rfl dX1_countSpoiled_32
theorem dX2_dropOldest_0 : decode cX2_dropOldest 0 = .ok (.aload_n 0, 1) := by decide +kernel
theorem dX2_dropOldest_1 : decode cX2_dropOldest 1 = .ok (.getfield 11, 3) := by decide +kernel
theorem dX2_dropOldest_4 : decode cX2_dropOldest 4 = .ok (.iconst 0, 1) := by decide +kernel
theorem dX2_dropOldest_5 : decode cX2_dropOldest 5 = .ok (.aaload, 1) := by decide +kernel
theorem dX2_dropOldest_6 : decode cX2_dropOldest 6 = .ok (.astore_n 1, 1) := by decide +kernel
theorem dX2_dropOldest_7 : decode cX2_dropOldest 7 = .ok (.iconst 1, 1) := by decide +kernel
theorem dX2_dropOldest_8 : decode cX2_dropOldest 8 = .ok (.istore_n 2, 1) := by decide +kernel
theorem dX2_dropOldest_9 : decode cX2_dropOldest 9 = .ok (.iload_n 2, 1) := by decide +kernel
theorem dX2_dropOldest_10 : decode cX2_dropOldest 10 = .ok (.iconst 4, 1) := by decide +kernel
theorem dX2_dropOldest_11 : decode cX2_dropOldest 11 = .ok (.if_icmp .ge 23, 3) := by decide +kernel
theorem dX2_dropOldest_14 : decode cX2_dropOldest 14 = .ok (.aload_n 0, 1) := by decide +kernel
theorem dX2_dropOldest_15 : decode cX2_dropOldest 15 = .ok (.getfield 11, 3) := by decide +kernel
theorem dX2_dropOldest_18 : decode cX2_dropOldest 18 = .ok (.iload_n 2, 1) := by decide +kernel
theorem dX2_dropOldest_19 : decode cX2_dropOldest 19 = .ok (.iconst 1, 1) := by decide +kernel
theorem dX2_dropOldest_20 : decode cX2_dropOldest 20 = .ok (.isub, 1) := by decide +kernel
theorem dX2_dropOldest_21 : decode cX2_dropOldest 21 = .ok (.aload_n 0, 1) := by decide +kernel
theorem dX2_dropOldest_22 : decode cX2_dropOldest 22 = .ok (.getfield 11, 3) := by decide +kernel
theorem dX2_dropOldest_25 : decode cX2_dropOldest 25 = .ok (.iload_n 2, 1) := by decide +kernel
theorem dX2_dropOldest_26 : decode cX2_dropOldest 26 = .ok (.aaload, 1) := by decide +kernel
theorem dX2_dropOldest_27 : decode cX2_dropOldest 27 = .ok (.aastore, 1) := by decide +kernel
theorem dX2_dropOldest_28 : decode cX2_dropOldest 28 = .ok (.iinc 2 1, 3) := by decide +kernel
theorem dX2_dropOldest_31 : decode cX2_dropOldest 31 = .ok (.goto (-22), 3) := by decide +kernel
theorem dX2_dropOldest_34 : decode cX2_dropOldest 34 = .ok (.aload_n 0, 1) := by decide +kernel
theorem dX2_dropOldest_35 : decode cX2_dropOldest 35 = .ok (.getfield 11, 3) := by decide +kernel
theorem dX2_dropOldest_38 : decode cX2_dropOldest 38 = .ok (.iconst 3, 1) := by decide +kernel
theorem dX2_dropOldest_39 : decode cX2_dropOldest 39 = .ok (.aload_n 1, 1) := by decide +kernel
theorem dX2_dropOldest_40 : decode cX2_dropOldest 40 = .ok (.aastore, 1) := by decide +kernel
theorem dX2_dropOldest_41 : decode cX2_dropOldest 41 = .ok (.aload_n 0, 1) := by decide +kernel
theorem dX2_dropOldest_42 : decode cX2_dropOldest 42 = .ok (.dup, 1) := by decide +kernel
theorem dX2_dropOldest_43 : decode cX2_dropOldest 43 = .ok (.getfield 18, 3) := by decide +kernel
theorem dX2_dropOldest_46 : decode cX2_dropOldest 46 = .ok (.iconst 1, 1) := by decide +kernel
theorem dX2_dropOldest_47 : decode cX2_dropOldest 47 = .ok (.isub, 1) := by decide +kernel
theorem dX2_dropOldest_48 : decode cX2_dropOldest 48 = .ok (.putfield 18, 3) := by decide +kernel
theorem dX2_dropOldest_51 : decode cX2_dropOldest 51 = .ok (.return_, 1) := by decide +kernel
abbrev rX2_dropOldest : Room := { frames := 0, cells := 0, slots := 0, locals := 0 }
set_option maxRecDepth 20000 in
theorem gd_X2_dropOldest_L9_body {x : Cx} {y : Cy} (hy : Inj y) (h : OkM x y cX2_dropOldest RX2 3 none rX2_dropOldest) (q1 : Nat) (hq1 : q1 < 7) (kx1 : Mem → Ans) (hx1 : ∀ M0 : Mem, G x y 34 [(0, .ref (y.2.1 134)), (1, .ref (y.2.1 (sI q1 0)))] [] M0 (kx1 M0)) (kb : Int32 → Mem → Ans) (hb : ∀ (b2 : Int32), ∀ M0 : Mem, G x y 9 [(0, .ref (y.2.1 134)), (1, .ref (y.2.1 (sI q1 0))), (2, .int b2)] [] M0 (kb b2 M0)) (a2 : Int32) (M : Mem) : G x y 9 [(0, .ref (y.2.1 134)), (1, .ref (y.2.1 (sI q1 0))), (2, .int a2)] [] M (d_X2_dropOldest_L9_body q1 kx1 kb a2 M) := by
  unfold d_X2_dropOldest_L9_body
  refine G_iload_n (pc := 9) h.1 dX2_dropOldest_9 rfl 2 rfl ?_
  refine G_iconst (pc := 10) (v := (4)) h.1 dX2_dropOldest_10 (by decide) ?_
  refine G_icmp_ge (pc := 11) (tgt := 34) h.1 dX2_dropOldest_11 (by decide) ?_ ?_
  · exact G_sub [0, 1] rfl (hx1 M)
  · refine G_aload_n (pc := 14) h.1 dX2_dropOldest_14 rfl 0 rfl ?_
    refine G_get (pc := 15) (v := .ref (y.2.1 135)) h.1 fl_X2_11 lN134 (eM134 _) rfl dX2_dropOldest_15 ?_
    refine G_iload_n (pc := 18) h.1 dX2_dropOldest_18 rfl 2 rfl ?_
    refine G_iconst (pc := 19) (v := (1)) h.1 dX2_dropOldest_19 (by decide) ?_
    refine G_isub (pc := 20) h.1 dX2_dropOldest_20 ?_
    refine G_aload_n (pc := 21) h.1 dX2_dropOldest_21 rfl 0 rfl ?_
    refine G_get (pc := 22) (v := .ref (y.2.1 135)) h.1 fl_X2_11 lN134 (eM134 _) rfl dX2_dropOldest_22 ?_
    refine G_iload_n (pc := 25) h.1 dX2_dropOldest_25 rfl 2 rfl ?_
    refine G_aald (pc := 26) h.1 dX2_dropOldest_26 (fun qz2 hqz2 => ?_)
    refine G_aast (pc := 27) h.1 hqz2 dX2_dropOldest_27 (fun M3 => ?_)
    refine G_iinc (pc := 28) (v := a2 + (1)) h.1 h.2.1 (fun v4 => [(2, .int v4), (0, .ref (y.2.1 134)), (1, .ref (y.2.1 (sI q1 0)))]) dX2_dropOldest_28 (by decide) 2 rfl rfl (fun _ => rfl) (fun v4 => ?_)
    refine G_goto (pc := 31) (tgt := 9) h.1 dX2_dropOldest_31 (by decide) ?_
    exact G_sub [1, 2, 0] rfl (hb v4 M3)
set_option maxRecDepth 20000 in
theorem gd_X2_dropOldest_L9 {x : Cx} {y : Cy} (hy : Inj y) (h : OkM x y cX2_dropOldest RX2 3 none rX2_dropOldest) (q1 : Nat) (hq1 : q1 < 7) (kx1 : Mem → Ans) (hx1 : ∀ M0 : Mem, G x y 34 [(0, .ref (y.2.1 134)), (1, .ref (y.2.1 (sI q1 0)))] [] M0 (kx1 M0)) : ∀ (n : Nat) (a2 : Int32) (M : Mem), G x y 9 [(0, .ref (y.2.1 134)), (1, .ref (y.2.1 (sI q1 0))), (2, .int a2)] [] M (d_X2_dropOldest_L9 q1 kx1 n a2 M) := by
  intro n
  induction n with
  | zero => intro a2 M; exact G_none
  | succ n ih => intro a2 M; exact gd_X2_dropOldest_L9_body hy h q1 hq1 kx1 hx1 _ ih a2 M
set_option maxRecDepth 20000 in
theorem c_X2_dropOldest (l : Launch) (y : Cy) (hy : Inj y) (M : Mem) : CT l y yX2_dropOldest cX2_dropOldest 3 none rX2_dropOldest [.ref (y.2.1 134)] M (d_X2_dropOldest M) := by
  refine CT_of (by decide) hy (Nat.le_of_ble_eq_true rfl) (fun x hxl h => ?_)
  show G x y 0 [(0, .ref (y.2.1 134))] [] M _
  unfold d_X2_dropOldest
  refine G_aload_n (pc := 0) h.1 dX2_dropOldest_0 rfl 0 rfl ?_
  refine G_get (pc := 1) (v := .ref (y.2.1 135)) h.1 fl_X2_11 lN134 (eM134 _) rfl dX2_dropOldest_1 ?_
  refine G_iconst (pc := 4) (v := (0)) h.1 dX2_dropOldest_4 (by decide) ?_
  refine G_aald (pc := 5) h.1 dX2_dropOldest_5 (fun qz1 hqz1 => ?_)
  refine G_astore_n (pc := 6) h.1 h.2.1 [(1, .ref (y.2.1 (sI qz1 0))), (0, .ref (y.2.1 134))] dX2_dropOldest_6 rfl (by decide) rfl ?_
  refine G_iconst (pc := 7) (v := (1)) h.1 dX2_dropOldest_7 (by decide) ?_
  refine G_istore_n (pc := 8) h.1 h.2.1 [(2, .int (1 : Int32)), (1, .ref (y.2.1 (sI qz1 0))), (0, .ref (y.2.1 134))] dX2_dropOldest_8 rfl (by decide) rfl ?_
  refine G_sub [2, 1, 0] rfl (gd_X2_dropOldest_L9 hy h qz1 hqz1 _ (fun M5 => ?_) fuelN (1 : Int32) M)
  refine G_aload_n (pc := 34) h.1 dX2_dropOldest_34 rfl 0 rfl ?_
  refine G_get (pc := 35) (v := .ref (y.2.1 135)) h.1 fl_X2_11 lN134 (eM134 _) rfl dX2_dropOldest_35 ?_
  refine G_iconst (pc := 38) (v := (3)) h.1 dX2_dropOldest_38 (by decide) ?_
  refine G_aload_n (pc := 39) h.1 dX2_dropOldest_39 rfl 1 rfl ?_
  refine G_aast (pc := 40) h.1 hqz1 dX2_dropOldest_40 (fun M6 => ?_)
  refine G_aload_n (pc := 41) h.1 dX2_dropOldest_41 rfl 0 rfl ?_
  refine G_dup (pc := 42) h.1 dX2_dropOldest_42 rfl ?_
  refine G_get (pc := 43) (v := .int (M6 134 1)) h.1 fl_X2_18 lN134 (eM134 _) rfl dX2_dropOldest_43 ?_
  refine G_iconst (pc := 46) (v := (1)) h.1 dX2_dropOldest_46 (by decide) ?_
  refine G_isub (pc := 47) h.1 dX2_dropOldest_47 ?_
  refine G_put (pc := 48) h.1 fp_X2_18 lN134 (fun m => eM134 m) (fun _ => rfl) (fun _ => Nat.le_of_ble_eq_true rfl) rfl rfl dX2_dropOldest_48 (fun M7 => ?_)
  exact G_vret (pc := 51) h dX2_dropOldest_51
theorem dX4_copyFrom_0 : decode cX4_copyFrom 0 = .ok (.aload_n 0, 1) := by decide +kernel
theorem dX4_copyFrom_1 : decode cX4_copyFrom 1 = .ok (.aload_n 1, 1) := by decide +kernel
theorem dX4_copyFrom_2 : decode cX4_copyFrom 2 = .ok (.getfield 24, 3) := by decide +kernel
theorem dX4_copyFrom_5 : decode cX4_copyFrom 5 = .ok (.putfield 24, 3) := by decide +kernel
theorem dX4_copyFrom_8 : decode cX4_copyFrom 8 = .ok (.aload_n 1, 1) := by decide +kernel
theorem dX4_copyFrom_9 : decode cX4_copyFrom 9 = .ok (.getfield 9, 3) := by decide +kernel
theorem dX4_copyFrom_12 : decode cX4_copyFrom 12 = .ok (.iconst 0, 1) := by decide +kernel
theorem dX4_copyFrom_13 : decode cX4_copyFrom 13 = .ok (.aload_n 0, 1) := by decide +kernel
theorem dX4_copyFrom_14 : decode cX4_copyFrom 14 = .ok (.getfield 9, 3) := by decide +kernel
theorem dX4_copyFrom_17 : decode cX4_copyFrom 17 = .ok (.iconst 0, 1) := by decide +kernel
theorem dX4_copyFrom_18 : decode cX4_copyFrom 18 = .ok (.bipush 8, 2) := by decide +kernel
theorem dX4_copyFrom_20 : decode cX4_copyFrom 20 = .ok (.invokestatic 32, 3) := by decide +kernel
theorem dX4_copyFrom_23 : decode cX4_copyFrom 23 = .ok (.aload_n 1, 1) := by decide +kernel
theorem dX4_copyFrom_24 : decode cX4_copyFrom 24 = .ok (.getfield 15, 3) := by decide +kernel
theorem dX4_copyFrom_27 : decode cX4_copyFrom 27 = .ok (.iconst 0, 1) := by decide +kernel
theorem dX4_copyFrom_28 : decode cX4_copyFrom 28 = .ok (.aload_n 0, 1) := by decide +kernel
theorem dX4_copyFrom_29 : decode cX4_copyFrom 29 = .ok (.getfield 15, 3) := by decide +kernel
theorem dX4_copyFrom_32 : decode cX4_copyFrom 32 = .ok (.iconst 0, 1) := by decide +kernel
theorem dX4_copyFrom_33 : decode cX4_copyFrom 33 = .ok (.bipush 8, 2) := by decide +kernel
theorem dX4_copyFrom_35 : decode cX4_copyFrom 35 = .ok (.invokestatic 32, 3) := by decide +kernel
theorem dX4_copyFrom_38 : decode cX4_copyFrom 38 = .ok (.aload_n 1, 1) := by decide +kernel
theorem dX4_copyFrom_39 : decode cX4_copyFrom 39 = .ok (.getfield 18, 3) := by decide +kernel
theorem dX4_copyFrom_42 : decode cX4_copyFrom 42 = .ok (.iconst 0, 1) := by decide +kernel
theorem dX4_copyFrom_43 : decode cX4_copyFrom 43 = .ok (.aload_n 0, 1) := by decide +kernel
theorem dX4_copyFrom_44 : decode cX4_copyFrom 44 = .ok (.getfield 18, 3) := by decide +kernel
theorem dX4_copyFrom_47 : decode cX4_copyFrom 47 = .ok (.iconst 0, 1) := by decide +kernel
theorem dX4_copyFrom_48 : decode cX4_copyFrom 48 = .ok (.bipush 8, 2) := by decide +kernel
theorem dX4_copyFrom_50 : decode cX4_copyFrom 50 = .ok (.invokestatic 32, 3) := by decide +kernel
theorem dX4_copyFrom_53 : decode cX4_copyFrom 53 = .ok (.aload_n 1, 1) := by decide +kernel
theorem dX4_copyFrom_54 : decode cX4_copyFrom 54 = .ok (.getfield 21, 3) := by decide +kernel
theorem dX4_copyFrom_57 : decode cX4_copyFrom 57 = .ok (.iconst 0, 1) := by decide +kernel
theorem dX4_copyFrom_58 : decode cX4_copyFrom 58 = .ok (.aload_n 0, 1) := by decide +kernel
theorem dX4_copyFrom_59 : decode cX4_copyFrom 59 = .ok (.getfield 21, 3) := by decide +kernel
theorem dX4_copyFrom_62 : decode cX4_copyFrom 62 = .ok (.iconst 0, 1) := by decide +kernel
theorem dX4_copyFrom_63 : decode cX4_copyFrom 63 = .ok (.bipush 8, 2) := by decide +kernel
theorem dX4_copyFrom_65 : decode cX4_copyFrom 65 = .ok (.invokestatic 32, 3) := by decide +kernel
theorem dX4_copyFrom_68 : decode cX4_copyFrom 68 = .ok (.return_, 1) := by decide +kernel
abbrev rX4_copyFrom : Room := { frames := 1, cells := 0, slots := 0, locals := 18 }
set_option maxRecDepth 20000 in
theorem c_X4_copyFrom (l : Launch) (y : Cy) (hy : Inj y) (q0 : Nat) (q1 : Nat) (hq0 : q0 < 7) (hq1 : q1 < 7) (M : Mem) : CT l y yX4_copyFrom cX4_copyFrom 2 none rX4_copyFrom [.ref (y.2.1 (sI q0 1)), .ref (y.2.1 (sI q1 1))] M (d_X4_copyFrom q0 q1 M) := by
  refine CT_of (by decide) hy (Nat.le_of_ble_eq_true rfl) (fun x hxl h => ?_)
  show G x y 0 [(0, .ref (y.2.1 (sI q0 1))), (1, .ref (y.2.1 (sI q1 1)))] [] M _
  unfold d_X4_copyFrom
  refine G_aload_n (pc := 0) h.1 dX4_copyFrom_0 rfl 0 rfl ?_
  refine G_aload_n (pc := 1) h.1 dX4_copyFrom_1 rfl 1 rfl ?_
  refine G_get (pc := 2) (v := .int (M (sI q1 1) 0)) h.1 fl_X4_24 (ids_s hq1 1 (by decide)) (eS1 hq1 _) rfl dX4_copyFrom_2 ?_
  refine G_put (pc := 5) h.1 fp_X4_24 (ids_s hq0 1 (by decide)) (fun m => eS1 hq0 m) (fun _ => rfl) (fun _ => Nat.le_of_ble_eq_true rfl) rfl rfl dX4_copyFrom_5 (fun M1 => ?_)
  refine G_aload_n (pc := 8) h.1 dX4_copyFrom_8 rfl 1 rfl ?_
  refine G_get (pc := 9) (v := .ref (y.2.1 (sI q1 2))) h.1 fl_X4_9 (ids_s hq1 1 (by decide)) (eS1 hq1 _) rfl dX4_copyFrom_9 ?_
  refine G_iconst (pc := 12) (v := (0)) h.1 dX4_copyFrom_12 (by decide) ?_
  refine G_aload_n (pc := 13) h.1 dX4_copyFrom_13 rfl 0 rfl ?_
  refine G_get (pc := 14) (v := .ref (y.2.1 (sI q0 2))) h.1 fl_X4_9 (ids_s hq0 1 (by decide)) (eS1 hq0 _) rfl dX4_copyFrom_14 ?_
  refine G_iconst (pc := 17) (v := (0)) h.1 dX4_copyFrom_17 (by decide) ?_
  refine G_bipush (pc := 18) (v := (8)) h.1 dX4_copyFrom_18 (by decide) ?_
  refine G_copy (pc := 20) h.1 h.2.2.1 mc_X4_32 (ids_s hq1 2 (by decide)) (ids_s hq0 2 (by decide)) (eS2 hq1 _) (fun m => eS2 hq0 m) (by decide) (by decide) dX4_copyFrom_20 (Nat.le_of_ble_eq_true rfl) (Nat.le_of_ble_eq_true rfl) (fun M2 => ?_)
  refine G_aload_n (pc := 23) h.1 dX4_copyFrom_23 rfl 1 rfl ?_
  refine G_get (pc := 24) (v := .ref (y.2.1 (sI q1 3))) h.1 fl_X4_15 (ids_s hq1 1 (by decide)) (eS1 hq1 _) rfl dX4_copyFrom_24 ?_
  refine G_iconst (pc := 27) (v := (0)) h.1 dX4_copyFrom_27 (by decide) ?_
  refine G_aload_n (pc := 28) h.1 dX4_copyFrom_28 rfl 0 rfl ?_
  refine G_get (pc := 29) (v := .ref (y.2.1 (sI q0 3))) h.1 fl_X4_15 (ids_s hq0 1 (by decide)) (eS1 hq0 _) rfl dX4_copyFrom_29 ?_
  refine G_iconst (pc := 32) (v := (0)) h.1 dX4_copyFrom_32 (by decide) ?_
  refine G_bipush (pc := 33) (v := (8)) h.1 dX4_copyFrom_33 (by decide) ?_
  refine G_copy (pc := 35) h.1 h.2.2.1 mc_X4_32 (ids_s hq1 3 (by decide)) (ids_s hq0 3 (by decide)) (eS3 hq1 _) (fun m => eS3 hq0 m) (by decide) (by decide) dX4_copyFrom_35 (Nat.le_of_ble_eq_true rfl) (Nat.le_of_ble_eq_true rfl) (fun M3 => ?_)
  refine G_aload_n (pc := 38) h.1 dX4_copyFrom_38 rfl 1 rfl ?_
  refine G_get (pc := 39) (v := .ref (y.2.1 (sI q1 4))) h.1 fl_X4_18 (ids_s hq1 1 (by decide)) (eS1 hq1 _) rfl dX4_copyFrom_39 ?_
  refine G_iconst (pc := 42) (v := (0)) h.1 dX4_copyFrom_42 (by decide) ?_
  refine G_aload_n (pc := 43) h.1 dX4_copyFrom_43 rfl 0 rfl ?_
  refine G_get (pc := 44) (v := .ref (y.2.1 (sI q0 4))) h.1 fl_X4_18 (ids_s hq0 1 (by decide)) (eS1 hq0 _) rfl dX4_copyFrom_44 ?_
  refine G_iconst (pc := 47) (v := (0)) h.1 dX4_copyFrom_47 (by decide) ?_
  refine G_bipush (pc := 48) (v := (8)) h.1 dX4_copyFrom_48 (by decide) ?_
  refine G_copy (pc := 50) h.1 h.2.2.1 mc_X4_32 (ids_s hq1 4 (by decide)) (ids_s hq0 4 (by decide)) (eS4 hq1 _) (fun m => eS4 hq0 m) (by decide) (by decide) dX4_copyFrom_50 (Nat.le_of_ble_eq_true rfl) (Nat.le_of_ble_eq_true rfl) (fun M4 => ?_)
  refine G_aload_n (pc := 53) h.1 dX4_copyFrom_53 rfl 1 rfl ?_
  refine G_get (pc := 54) (v := .ref (y.2.1 (sI q1 5))) h.1 fl_X4_21 (ids_s hq1 1 (by decide)) (eS1 hq1 _) rfl dX4_copyFrom_54 ?_
  refine G_iconst (pc := 57) (v := (0)) h.1 dX4_copyFrom_57 (by decide) ?_
  refine G_aload_n (pc := 58) h.1 dX4_copyFrom_58 rfl 0 rfl ?_
  refine G_get (pc := 59) (v := .ref (y.2.1 (sI q0 5))) h.1 fl_X4_21 (ids_s hq0 1 (by decide)) (eS1 hq0 _) rfl dX4_copyFrom_59 ?_
  refine G_iconst (pc := 62) (v := (0)) h.1 dX4_copyFrom_62 (by decide) ?_
  refine G_bipush (pc := 63) (v := (8)) h.1 dX4_copyFrom_63 (by decide) ?_
  refine G_copy (pc := 65) h.1 h.2.2.1 mc_X4_32 (ids_s hq1 5 (by decide)) (ids_s hq0 5 (by decide)) (eS5 hq1 _) (fun m => eS5 hq0 m) (by decide) (by decide) dX4_copyFrom_65 (Nat.le_of_ble_eq_true rfl) (Nat.le_of_ble_eq_true rfl) (fun M5 => ?_)
  exact G_vret (pc := 68) h dX4_copyFrom_68
