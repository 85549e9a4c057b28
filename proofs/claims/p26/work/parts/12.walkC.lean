theorem dX7_has_0 : decode cX7_has 0 = .ok (.iload_n 1, 1) := by decide +kernel
theorem dX7_has_1 : decode cX7_has 1 = .ok (.ifCond .lt 15, 3) := by decide +kernel
theorem dX7_has_4 : decode cX7_has 4 = .ok (.iload_n 1, 1) := by decide +kernel
theorem dX7_has_5 : decode cX7_has 5 = .ok (.aload_n 0, 1) := by decide +kernel
theorem dX7_has_6 : decode cX7_has 6 = .ok (.getfield 21, 3) := by decide +kernel
theorem dX7_has_9 : decode cX7_has 9 = .ok (.if_icmp .ge 7, 3) := by decide +kernel
theorem dX7_has_12 : decode cX7_has 12 = .ok (.iconst 1, 1) := by decide +kernel
theorem dX7_has_13 : decode cX7_has 13 = .ok (.goto 4, 3) := by decide +kernel
theorem dX7_has_16 : decode cX7_has 16 = .ok (.iconst 0, 1) := by decide +kernel
theorem dX7_has_17 : decode cX7_has 17 = .ok (.ireturn, 1) := by decide +kernel
abbrev rX7_has : Room := { frames := 0, cells := 0, slots := 0, locals := 0 }
set_option maxRecDepth 20000 in
theorem c_X7_has (l : Launch) (y : Cy) (hy : Inj y) (q0 : Nat) (hq0 : q0 < 7) (p1 : Int32) (M : Mem) : CT l y yX7_has cX7_has 2 (some .boolean) rX7_has [.ref (y.2.1 (sI q0 12)), .int p1] M (d_X7_has q0 p1 M) := by
  refine CT_of (by decide) hy (Nat.le_of_ble_eq_true rfl) (fun x hxl h => ?_)
  show G x y 0 [(0, .ref (y.2.1 (sI q0 12))), (1, .int p1)] [] M _
  unfold d_X7_has
  refine G_iload_n (pc := 0) h.1 dX7_has_0 rfl 1 rfl ?_
  refine G_if_lt (pc := 1) (tgt := 16) h.1 dX7_has_1 (by decide) ?_ ?_
  · refine G_iconst (pc := 16) (v := (0)) h.1 dX7_has_16 (by decide) ?_
    exact G_ret (pc := 17) h rfl dX7_has_17
  · refine G_iload_n (pc := 4) h.1 dX7_has_4 rfl 1 rfl ?_
    refine G_aload_n (pc := 5) h.1 dX7_has_5 rfl 0 rfl ?_
    refine G_get (pc := 6) (v := .int (M (sI q0 12) 0)) h.1 fl_X7_21 (ids_s hq0 12 (by decide)) (eS12 hq0 _) rfl dX7_has_6 ?_
    refine G_icmp_ge (pc := 9) (tgt := 16) h.1 dX7_has_9 (by decide) ?_ ?_
    · refine G_iconst (pc := 16) (v := (0)) h.1 dX7_has_16 (by decide) ?_
      exact G_ret (pc := 17) h rfl dX7_has_17
    · refine G_iconst (pc := 12) (v := (1)) h.1 dX7_has_12 (by decide) ?_
      refine G_goto (pc := 13) (tgt := 17) h.1 dX7_has_13 (by decide) ?_
      exact G_ret (pc := 17) h rfl dX7_has_17
theorem dX7_append_0 : decode cX7_append 0 = .ok (.aload_n 0, 1) := by decide +kernel
theorem dX7_append_1 : decode cX7_append 1 = .ok (.getfield 21, 3) := by decide +kernel
theorem dX7_append_4 : decode cX7_append 4 = .ok (.bipush 8, 2) := by decide +kernel
theorem dX7_append_6 : decode cX7_append 6 = .ok (.if_icmp .ge 43, 3) := by decide +kernel
theorem dX7_append_9 : decode cX7_append 9 = .ok (.aload_n 0, 1) := by decide +kernel
theorem dX7_append_10 : decode cX7_append 10 = .ok (.getfield 9, 3) := by decide +kernel
theorem dX7_append_13 : decode cX7_append 13 = .ok (.aload_n 0, 1) := by decide +kernel
theorem dX7_append_14 : decode cX7_append 14 = .ok (.getfield 21, 3) := by decide +kernel
theorem dX7_append_17 : decode cX7_append 17 = .ok (.iload_n 1, 1) := by decide +kernel
theorem dX7_append_18 : decode cX7_append 18 = .ok (.iastore, 1) := by decide +kernel
theorem dX7_append_19 : decode cX7_append 19 = .ok (.aload_n 0, 1) := by decide +kernel
theorem dX7_append_20 : decode cX7_append 20 = .ok (.getfield 15, 3) := by decide +kernel
theorem dX7_append_23 : decode cX7_append 23 = .ok (.aload_n 0, 1) := by decide +kernel
theorem dX7_append_24 : decode cX7_append 24 = .ok (.getfield 21, 3) := by decide +kernel
theorem dX7_append_27 : decode cX7_append 27 = .ok (.iload_n 2, 1) := by decide +kernel
theorem dX7_append_28 : decode cX7_append 28 = .ok (.iastore, 1) := by decide +kernel
theorem dX7_append_29 : decode cX7_append 29 = .ok (.aload_n 0, 1) := by decide +kernel
theorem dX7_append_30 : decode cX7_append 30 = .ok (.getfield 18, 3) := by decide +kernel
theorem dX7_append_33 : decode cX7_append 33 = .ok (.aload_n 0, 1) := by decide +kernel
theorem dX7_append_34 : decode cX7_append 34 = .ok (.getfield 21, 3) := by decide +kernel
theorem dX7_append_37 : decode cX7_append 37 = .ok (.iload_n 3, 1) := by decide +kernel
theorem dX7_append_38 : decode cX7_append 38 = .ok (.iastore, 1) := by decide +kernel
theorem dX7_append_39 : decode cX7_append 39 = .ok (.aload_n 0, 1) := by decide +kernel
theorem dX7_append_40 : decode cX7_append 40 = .ok (.dup, 1) := by decide +kernel
theorem dX7_append_41 : decode cX7_append 41 = .ok (.getfield 21, 3) := by decide +kernel
theorem dX7_append_44 : decode cX7_append 44 = .ok (.iconst 1, 1) := by decide +kernel
theorem dX7_append_45 : decode cX7_append 45 = .ok (.iadd, 1) := by decide +kernel
theorem dX7_append_46 : decode cX7_append 46 = .ok (.putfield 21, 3) := by decide +kernel
theorem dX7_append_49 : decode cX7_append 49 = .ok (.aload_n 0, 1) := by decide +kernel
theorem dX7_append_50 : decode cX7_append 50 = .ok (.getfield 21, 3) := by decide +kernel
theorem dX7_append_53 : decode cX7_append 53 = .ok (.ireturn, 1) := by decide +kernel
abbrev rX7_append : Room := { frames := 0, cells := 0, slots := 0, locals := 0 }
set_option maxRecDepth 20000 in
theorem c_X7_append (l : Launch) (y : Cy) (hy : Inj y) (q0 : Nat) (hq0 : q0 < 7) (p1 : Int32) (p2 : Int32) (p3 : Int32) (M : Mem) : CT l y yX7_append cX7_append 4 (some .int) rX7_append [.ref (y.2.1 (sI q0 12)), .int p1, .int p2, .int p3] M (d_X7_append q0 p1 p2 p3 M) := by
  refine CT_of (by decide) hy (Nat.le_of_ble_eq_true rfl) (fun x hxl h => ?_)
  show G x y 0 [(0, .ref (y.2.1 (sI q0 12))), (1, .int p1), (2, .int p2), (3, .int p3)] [] M _
  unfold d_X7_append
  refine G_aload_n (pc := 0) h.1 dX7_append_0 rfl 0 rfl ?_
  refine G_get (pc := 1) (v := .int (M (sI q0 12) 0)) h.1 fl_X7_21 (ids_s hq0 12 (by decide)) (eS12 hq0 _) rfl dX7_append_1 ?_
  refine G_bipush (pc := 4) (v := (8)) h.1 dX7_append_4 (by decide) ?_
  refine G_icmp_ge (pc := 6) (tgt := 49) h.1 dX7_append_6 (by decide) ?_ ?_
  · refine G_aload_n (pc := 49) h.1 dX7_append_49 rfl 0 rfl ?_
    refine G_get (pc := 50) (v := .int (M (sI q0 12) 0)) h.1 fl_X7_21 (ids_s hq0 12 (by decide)) (eS12 hq0 _) rfl dX7_append_50 ?_
    exact G_ret (pc := 53) h rfl dX7_append_53
  · refine G_aload_n (pc := 9) h.1 dX7_append_9 rfl 0 rfl ?_
    refine G_get (pc := 10) (v := .ref (y.2.1 (sI q0 13))) h.1 fl_X7_9 (ids_s hq0 12 (by decide)) (eS12 hq0 _) rfl dX7_append_10 ?_
    refine G_aload_n (pc := 13) h.1 dX7_append_13 rfl 0 rfl ?_
    refine G_get (pc := 14) (v := .int (M (sI q0 12) 0)) h.1 fl_X7_21 (ids_s hq0 12 (by decide)) (eS12 hq0 _) rfl dX7_append_14 ?_
    refine G_iload_n (pc := 17) h.1 dX7_append_17 rfl 1 rfl ?_
    refine G_iast (pc := 18) h.1 (ids_s hq0 13 (by decide)) (fun m => eS13 hq0 m) dX7_append_18 (fun M1 => ?_)
    refine G_aload_n (pc := 19) h.1 dX7_append_19 rfl 0 rfl ?_
    refine G_get (pc := 20) (v := .ref (y.2.1 (sI q0 14))) h.1 fl_X7_15 (ids_s hq0 12 (by decide)) (eS12 hq0 _) rfl dX7_append_20 ?_
    refine G_aload_n (pc := 23) h.1 dX7_append_23 rfl 0 rfl ?_
    refine G_get (pc := 24) (v := .int (M1 (sI q0 12) 0)) h.1 fl_X7_21 (ids_s hq0 12 (by decide)) (eS12 hq0 _) rfl dX7_append_24 ?_
    refine G_iload_n (pc := 27) h.1 dX7_append_27 rfl 2 rfl ?_
    refine G_iast (pc := 28) h.1 (ids_s hq0 14 (by decide)) (fun m => eS14 hq0 m) dX7_append_28 (fun M2 => ?_)
    refine G_aload_n (pc := 29) h.1 dX7_append_29 rfl 0 rfl ?_
    refine G_get (pc := 30) (v := .ref (y.2.1 (sI q0 15))) h.1 fl_X7_18 (ids_s hq0 12 (by decide)) (eS12 hq0 _) rfl dX7_append_30 ?_
    refine G_aload_n (pc := 33) h.1 dX7_append_33 rfl 0 rfl ?_
    refine G_get (pc := 34) (v := .int (M2 (sI q0 12) 0)) h.1 fl_X7_21 (ids_s hq0 12 (by decide)) (eS12 hq0 _) rfl dX7_append_34 ?_
    refine G_iload_n (pc := 37) h.1 dX7_append_37 rfl 3 rfl ?_
    refine G_iast (pc := 38) h.1 (ids_s hq0 15 (by decide)) (fun m => eS15 hq0 m) dX7_append_38 (fun M3 => ?_)
    refine G_aload_n (pc := 39) h.1 dX7_append_39 rfl 0 rfl ?_
    refine G_dup (pc := 40) h.1 dX7_append_40 rfl ?_
    refine G_get (pc := 41) (v := .int (M3 (sI q0 12) 0)) h.1 fl_X7_21 (ids_s hq0 12 (by decide)) (eS12 hq0 _) rfl dX7_append_41 ?_
    refine G_iconst (pc := 44) (v := (1)) h.1 dX7_append_44 (by decide) ?_
    refine G_iadd (pc := 45) h.1 dX7_append_45 ?_
    refine G_put (pc := 46) h.1 fp_X7_21 (ids_s hq0 12 (by decide)) (fun m => eS12 hq0 m) (fun _ => rfl) (fun _ => Nat.le_of_ble_eq_true rfl) rfl rfl dX7_append_46 (fun M4 => ?_)
    refine G_aload_n (pc := 49) h.1 dX7_append_49 rfl 0 rfl ?_
    refine G_get (pc := 50) (v := .int (M4 (sI q0 12) 0)) h.1 fl_X7_21 (ids_s hq0 12 (by decide)) (eS12 hq0 _) rfl dX7_append_50 ?_
    exact G_ret (pc := 53) h rfl dX7_append_53
theorem dX7_takeOut_0 : decode cX7_takeOut 0 = .ok (.aload_n 0, 1) := by decide +kernel
theorem dX7_takeOut_1 : decode cX7_takeOut 1 = .ok (.iload_n 1, 1) := by decide +kernel
theorem dX7_takeOut_2 : decode cX7_takeOut 2 = .ok (.invokevirtual 25, 3) := by decide +kernel
theorem dX7_takeOut_5 : decode cX7_takeOut 5 = .ok (.ifCond .ne 4, 3) := by decide +kernel
theorem dX7_takeOut_8 : decode cX7_takeOut 8 = .ok (.return_, 1) := by decide +kernel
theorem dX7_takeOut_9 : decode cX7_takeOut 9 = .ok (.iload_n 1, 1) := by decide +kernel
theorem dX7_takeOut_10 : decode cX7_takeOut 10 = .ok (.iconst 1, 1) := by decide +kernel
theorem dX7_takeOut_11 : decode cX7_takeOut 11 = .ok (.iadd, 1) := by decide +kernel
theorem dX7_takeOut_12 : decode cX7_takeOut 12 = .ok (.istore_n 2, 1) := by decide +kernel
theorem dX7_takeOut_13 : decode cX7_takeOut 13 = .ok (.iload_n 2, 1) := by decide +kernel
theorem dX7_takeOut_14 : decode cX7_takeOut 14 = .ok (.aload_n 0, 1) := by decide +kernel
theorem dX7_takeOut_15 : decode cX7_takeOut 15 = .ok (.getfield 21, 3) := by decide +kernel
theorem dX7_takeOut_18 : decode cX7_takeOut 18 = .ok (.if_icmp .ge 51, 3) := by decide +kernel
theorem dX7_takeOut_21 : decode cX7_takeOut 21 = .ok (.aload_n 0, 1) := by decide +kernel
theorem dX7_takeOut_22 : decode cX7_takeOut 22 = .ok (.getfield 9, 3) := by decide +kernel
theorem dX7_takeOut_25 : decode cX7_takeOut 25 = .ok (.iload_n 2, 1) := by decide +kernel
theorem dX7_takeOut_26 : decode cX7_takeOut 26 = .ok (.iconst 1, 1) := by decide +kernel
theorem dX7_takeOut_27 : decode cX7_takeOut 27 = .ok (.isub, 1) := by decide +kernel
theorem dX7_takeOut_28 : decode cX7_takeOut 28 = .ok (.aload_n 0, 1) := by decide +kernel
theorem dX7_takeOut_29 : decode cX7_takeOut 29 = .ok (.getfield 9, 3) := by decide +kernel
theorem dX7_takeOut_32 : decode cX7_takeOut 32 = .ok (.iload_n 2, 1) := by decide +kernel
theorem dX7_takeOut_33 : decode cX7_takeOut 33 = .ok (.iaload, 1) := by decide +kernel
theorem dX7_takeOut_34 : decode cX7_takeOut 34 = .ok (.iastore, 1) := by decide +kernel
theorem dX7_takeOut_35 : decode cX7_takeOut 35 = .ok (.aload_n 0, 1) := by decide +kernel
theorem dX7_takeOut_36 : decode cX7_takeOut 36 = .ok (.getfield 15, 3) := by decide +kernel
theorem dX7_takeOut_39 : decode cX7_takeOut 39 = .ok (.iload_n 2, 1) := by decide +kernel
theorem dX7_takeOut_40 : decode cX7_takeOut 40 = .ok (.iconst 1, 1) := by decide +kernel
theorem dX7_takeOut_41 : decode cX7_takeOut 41 = .ok (.isub, 1) := by decide +kernel
theorem dX7_takeOut_42 : decode cX7_takeOut 42 = .ok (.aload_n 0, 1) := by decide +kernel
theorem dX7_takeOut_43 : decode cX7_takeOut 43 = .ok (.getfield 15, 3) := by decide +kernel
theorem dX7_takeOut_46 : decode cX7_takeOut 46 = .ok (.iload_n 2, 1) := by decide +kernel
theorem dX7_takeOut_47 : decode cX7_takeOut 47 = .ok (.iaload, 1) := by decide +kernel
theorem dX7_takeOut_48 : decode cX7_takeOut 48 = .ok (.iastore, 1) := by decide +kernel
theorem dX7_takeOut_49 : decode cX7_takeOut 49 = .ok (.aload_n 0, 1) := by decide +kernel
theorem dX7_takeOut_50 : decode cX7_takeOut 50 = .ok (.getfield 18, 3) := by decide +kernel
theorem dX7_takeOut_53 : decode cX7_takeOut 53 = .ok (.iload_n 2, 1) := by decide +kernel
theorem dX7_takeOut_54 : decode cX7_takeOut 54 = .ok (.iconst 1, 1) := by decide +kernel
theorem dX7_takeOut_55 : decode cX7_takeOut 55 = .ok (.isub, 1) := by decide +kernel
theorem dX7_takeOut_56 : decode cX7_takeOut 56 = .ok (.aload_n 0, 1) := by decide +kernel
theorem dX7_takeOut_57 : decode cX7_takeOut 57 = .ok (.getfield 18, 3) := by decide +kernel
theorem dX7_takeOut_60 : decode cX7_takeOut 60 = .ok (.iload_n 2, 1) := by decide +kernel
theorem dX7_takeOut_61 : decode cX7_takeOut 61 = .ok (.iaload, 1) := by decide +kernel
theorem dX7_takeOut_62 : decode cX7_takeOut 62 = .ok (.iastore, 1) := by decide +kernel
theorem dX7_takeOut_63 : decode cX7_takeOut 63 = .ok (.iinc 2 1, 3) := by decide +kernel
theorem dX7_takeOut_66 : decode cX7_takeOut 66 = .ok (.goto (-53), 3) := by decide +kernel
theorem dX7_takeOut_69 : decode cX7_takeOut 69 = .ok (.aload_n 0, 1) := by decide +kernel
theorem dX7_takeOut_70 : decode cX7_takeOut 70 = .ok (.dup, 1) := by decide +kernel
theorem dX7_takeOut_71 : decode cX7_takeOut 71 = .ok (.getfield 21, 3) := by decide +kernel
theorem dX7_takeOut_74 : decode cX7_takeOut 74 = .ok (.iconst 1, 1) := by decide +kernel
theorem dX7_takeOut_75 : decode cX7_takeOut 75 = .ok (.isub, 1) := by decide +kernel
theorem dX7_takeOut_76 : decode cX7_takeOut 76 = .ok (.putfield 21, 3) := by decide +kernel
theorem dX7_takeOut_79 : decode cX7_takeOut 79 = .ok (.return_, 1) := by decide +kernel
abbrev rX7_takeOut : Room := { frames := 1, cells := 0, slots := 0, locals := 21 }
set_option maxRecDepth 20000 in
theorem gd_X7_takeOut_L13_body {x : Cx} {y : Cy} (hy : Inj y) (h : OkM x y cX7_takeOut RX7 3 none rX7_takeOut) (q0 : Nat) (hq0 : q0 < 7) (kx1 : Mem → Ans) (hx1 : ∀ M0 : Mem, G x y 69 [(0, .ref (y.2.1 (sI q0 12)))] [] M0 (kx1 M0)) (kb : Int32 → Mem → Ans) (hb : ∀ (b2 : Int32), ∀ M0 : Mem, G x y 13 [(0, .ref (y.2.1 (sI q0 12))), (2, .int b2)] [] M0 (kb b2 M0)) (a2 : Int32) (M : Mem) : G x y 13 [(0, .ref (y.2.1 (sI q0 12))), (2, .int a2)] [] M (d_X7_takeOut_L13_body q0 kx1 kb a2 M) := by
  unfold d_X7_takeOut_L13_body
  refine G_iload_n (pc := 13) h.1 dX7_takeOut_13 rfl 1 rfl ?_
  refine G_aload_n (pc := 14) h.1 dX7_takeOut_14 rfl 0 rfl ?_
  refine G_get (pc := 15) (v := .int (M (sI q0 12) 0)) h.1 fl_X7_21 (ids_s hq0 12 (by decide)) (eS12 hq0 _) rfl dX7_takeOut_15 ?_
  refine G_icmp_ge (pc := 18) (tgt := 69) h.1 dX7_takeOut_18 (by decide) ?_ ?_
  · exact G_sub [0] rfl (hx1 M)
  · refine G_aload_n (pc := 21) h.1 dX7_takeOut_21 rfl 0 rfl ?_
    refine G_get (pc := 22) (v := .ref (y.2.1 (sI q0 13))) h.1 fl_X7_9 (ids_s hq0 12 (by decide)) (eS12 hq0 _) rfl dX7_takeOut_22 ?_
    refine G_iload_n (pc := 25) h.1 dX7_takeOut_25 rfl 1 rfl ?_
    refine G_iconst (pc := 26) (v := (1)) h.1 dX7_takeOut_26 (by decide) ?_
    refine G_isub (pc := 27) h.1 dX7_takeOut_27 ?_
    refine G_aload_n (pc := 28) h.1 dX7_takeOut_28 rfl 0 rfl ?_
    refine G_get (pc := 29) (v := .ref (y.2.1 (sI q0 13))) h.1 fl_X7_9 (ids_s hq0 12 (by decide)) (eS12 hq0 _) rfl dX7_takeOut_29 ?_
    refine G_iload_n (pc := 32) h.1 dX7_takeOut_32 rfl 1 rfl ?_
    refine G_iald (pc := 33) h.1 (ids_s hq0 13 (by decide)) (eS13 hq0 _) dX7_takeOut_33 ?_
    refine G_iast (pc := 34) h.1 (ids_s hq0 13 (by decide)) (fun m => eS13 hq0 m) dX7_takeOut_34 (fun M4 => ?_)
    refine G_aload_n (pc := 35) h.1 dX7_takeOut_35 rfl 0 rfl ?_
    refine G_get (pc := 36) (v := .ref (y.2.1 (sI q0 14))) h.1 fl_X7_15 (ids_s hq0 12 (by decide)) (eS12 hq0 _) rfl dX7_takeOut_36 ?_
    refine G_iload_n (pc := 39) h.1 dX7_takeOut_39 rfl 1 rfl ?_
    refine G_iconst (pc := 40) (v := (1)) h.1 dX7_takeOut_40 (by decide) ?_
    refine G_isub (pc := 41) h.1 dX7_takeOut_41 ?_
    refine G_aload_n (pc := 42) h.1 dX7_takeOut_42 rfl 0 rfl ?_
    refine G_get (pc := 43) (v := .ref (y.2.1 (sI q0 14))) h.1 fl_X7_15 (ids_s hq0 12 (by decide)) (eS12 hq0 _) rfl dX7_takeOut_43 ?_
    refine G_iload_n (pc := 46) h.1 dX7_takeOut_46 rfl 1 rfl ?_
    refine G_iald (pc := 47) h.1 (ids_s hq0 14 (by decide)) (eS14 hq0 _) dX7_takeOut_47 ?_
    refine G_iast (pc := 48) h.1 (ids_s hq0 14 (by decide)) (fun m => eS14 hq0 m) dX7_takeOut_48 (fun M5 => ?_)
    refine G_aload_n (pc := 49) h.1 dX7_takeOut_49 rfl 0 rfl ?_
    refine G_get (pc := 50) (v := .ref (y.2.1 (sI q0 15))) h.1 fl_X7_18 (ids_s hq0 12 (by decide)) (eS12 hq0 _) rfl dX7_takeOut_50 ?_
    refine G_iload_n (pc := 53) h.1 dX7_takeOut_53 rfl 1 rfl ?_
    refine G_iconst (pc := 54) (v := (1)) h.1 dX7_takeOut_54 (by decide) ?_
    refine G_isub (pc := 55) h.1 dX7_takeOut_55 ?_
    refine G_aload_n (pc := 56) h.1 dX7_takeOut_56 rfl 0 rfl ?_
    refine G_get (pc := 57) (v := .ref (y.2.1 (sI q0 15))) h.1 fl_X7_18 (ids_s hq0 12 (by decide)) (eS12 hq0 _) rfl dX7_takeOut_57 ?_
    refine G_iload_n (pc := 60) h.1 dX7_takeOut_60 rfl 1 rfl ?_
    refine G_iald (pc := 61) h.1 (ids_s hq0 15 (by decide)) (eS15 hq0 _) dX7_takeOut_61 ?_
    refine G_iast (pc := 62) h.1 (ids_s hq0 15 (by decide)) (fun m => eS15 hq0 m) dX7_takeOut_62 (fun M6 => ?_)
    refine G_iinc (pc := 63) (v := a2 + (1)) h.1 h.2.1 (fun v7 => [(2, .int v7), (0, .ref (y.2.1 (sI q0 12)))]) dX7_takeOut_63 (by decide) 1 rfl rfl (fun _ => rfl) (fun v7 => ?_)
    refine G_goto (pc := 66) (tgt := 13) h.1 dX7_takeOut_66 (by decide) ?_
    exact G_sub [1, 0] rfl (hb v7 M6)
set_option maxRecDepth 20000 in
theorem gd_X7_takeOut_L13 {x : Cx} {y : Cy} (hy : Inj y) (h : OkM x y cX7_takeOut RX7 3 none rX7_takeOut) (q0 : Nat) (hq0 : q0 < 7) (kx1 : Mem → Ans) (hx1 : ∀ M0 : Mem, G x y 69 [(0, .ref (y.2.1 (sI q0 12)))] [] M0 (kx1 M0)) : ∀ (n : Nat) (a2 : Int32) (M : Mem), G x y 13 [(0, .ref (y.2.1 (sI q0 12))), (2, .int a2)] [] M (d_X7_takeOut_L13 q0 kx1 n a2 M) := by
  intro n
  induction n with
  | zero => intro a2 M; exact G_none
  | succ n ih => intro a2 M; exact gd_X7_takeOut_L13_body hy h q0 hq0 kx1 hx1 _ ih a2 M
set_option maxRecDepth 20000 in
theorem c_X7_takeOut (l : Launch) (y : Cy) (hy : Inj y) (q0 : Nat) (hq0 : q0 < 7) (p1 : Int32) (M : Mem) : CT l y yX7_takeOut cX7_takeOut 3 none rX7_takeOut [.ref (y.2.1 (sI q0 12)), .int p1] M (d_X7_takeOut q0 p1 M) := by
  refine CT_of (by decide) hy (Nat.le_of_ble_eq_true rfl) (fun x hxl h => ?_)
  show G x y 0 [(0, .ref (y.2.1 (sI q0 12))), (1, .int p1)] [] M _
  unfold d_X7_takeOut
  refine G_aload_n (pc := 0) h.1 dX7_takeOut_0 rfl 0 rfl ?_
  refine G_iload_n (pc := 1) h.1 dX7_takeOut_1 rfl 1 rfl ?_
  refine G_callV (pc := 2) (As := [.int p1]) (rest := []) h.1 h.2.2.1 lk_X7_25 (ids_s hq0 12 (by decide)) (eS12 hq0 _) rfl rfl (c_X7_has x.1.2.1 y hy q0 hq0 p1 M) rfl rfl (Nat.le_of_ble_eq_true rfl) ⟨rfl, rfl, Nat.le_of_ble_eq_true rfl, Nat.le_of_ble_eq_true rfl⟩ dX7_takeOut_2 (fun r2 M1 => ?_)
  refine G_if_ne (pc := 5) (tgt := 9) h.1 dX7_takeOut_5 (by decide) ?_ ?_
  · refine G_iload_n (pc := 9) h.1 dX7_takeOut_9 rfl 1 rfl ?_
    refine G_iconst (pc := 10) (v := (1)) h.1 dX7_takeOut_10 (by decide) ?_
    refine G_iadd (pc := 11) h.1 dX7_takeOut_11 ?_
    refine G_top (fun v3 => ?_)
    refine G_istore_n (pc := 12) h.1 h.2.1 [(2, .int v3), (0, .ref (y.2.1 (sI q0 12))), (1, .int p1)] dX7_takeOut_12 rfl (by decide) rfl ?_
    refine G_sub [1, 0] rfl (gd_X7_takeOut_L13 hy h q0 hq0 _ (fun M8 => ?_) fuelN v3 M1)
    refine G_aload_n (pc := 69) h.1 dX7_takeOut_69 rfl 0 rfl ?_
    refine G_dup (pc := 70) h.1 dX7_takeOut_70 rfl ?_
    refine G_get (pc := 71) (v := .int (M8 (sI q0 12) 0)) h.1 fl_X7_21 (ids_s hq0 12 (by decide)) (eS12 hq0 _) rfl dX7_takeOut_71 ?_
    refine G_iconst (pc := 74) (v := (1)) h.1 dX7_takeOut_74 (by decide) ?_
    refine G_isub (pc := 75) h.1 dX7_takeOut_75 ?_
    refine G_put (pc := 76) h.1 fp_X7_21 (ids_s hq0 12 (by decide)) (fun m => eS12 hq0 m) (fun _ => rfl) (fun _ => Nat.le_of_ble_eq_true rfl) rfl rfl dX7_takeOut_76 (fun M9 => ?_)
    exact G_vret (pc := 79) h dX7_takeOut_79
  · exact G_vret (pc := 8) h dX7_takeOut_8
theorem dX7_dropUntil_0 : decode cX7_dropUntil 0 = .ok (.iconst 0, 1) := by decide +kernel
theorem dX7_dropUntil_1 : decode cX7_dropUntil 1 = .ok (.istore_n 2, 1) := by decide +kernel
theorem dX7_dropUntil_2 : decode cX7_dropUntil 2 = .ok (.aload_n 0, 1) := by decide +kernel
theorem dX7_dropUntil_3 : decode cX7_dropUntil 3 = .ok (.getfield 21, 3) := by decide +kernel
theorem dX7_dropUntil_6 : decode cX7_dropUntil 6 = .ok (.iconst 1, 1) := by decide +kernel
theorem dX7_dropUntil_7 : decode cX7_dropUntil 7 = .ok (.isub, 1) := by decide +kernel
theorem dX7_dropUntil_8 : decode cX7_dropUntil 8 = .ok (.istore_n 3, 1) := by decide +kernel
theorem dX7_dropUntil_9 : decode cX7_dropUntil 9 = .ok (.iload_n 3, 1) := by decide +kernel
theorem dX7_dropUntil_10 : decode cX7_dropUntil 10 = .ok (.ifCond .lt 30, 3) := by decide +kernel
theorem dX7_dropUntil_13 : decode cX7_dropUntil 13 = .ok (.aload_n 0, 1) := by decide +kernel
theorem dX7_dropUntil_14 : decode cX7_dropUntil 14 = .ok (.getfield 18, 3) := by decide +kernel
theorem dX7_dropUntil_17 : decode cX7_dropUntil 17 = .ok (.iload_n 3, 1) := by decide +kernel
theorem dX7_dropUntil_18 : decode cX7_dropUntil 18 = .ok (.iaload, 1) := by decide +kernel
theorem dX7_dropUntil_19 : decode cX7_dropUntil 19 = .ok (.bipush 20, 2) := by decide +kernel
theorem dX7_dropUntil_21 : decode cX7_dropUntil 21 = .ok (.iadd, 1) := by decide +kernel
theorem dX7_dropUntil_22 : decode cX7_dropUntil 22 = .ok (.iload_n 1, 1) := by decide +kernel
theorem dX7_dropUntil_23 : decode cX7_dropUntil 23 = .ok (.if_icmp .gt 11, 3) := by decide +kernel
theorem dX7_dropUntil_26 : decode cX7_dropUntil 26 = .ok (.aload_n 0, 1) := by decide +kernel
theorem dX7_dropUntil_27 : decode cX7_dropUntil 27 = .ok (.iload_n 3, 1) := by decide +kernel
theorem dX7_dropUntil_28 : decode cX7_dropUntil 28 = .ok (.invokevirtual 29, 3) := by decide +kernel
theorem dX7_dropUntil_31 : decode cX7_dropUntil 31 = .ok (.iinc 2 1, 3) := by decide +kernel
theorem dX7_dropUntil_34 : decode cX7_dropUntil 34 = .ok (.iinc 3 (-1), 3) := by decide +kernel
theorem dX7_dropUntil_37 : decode cX7_dropUntil 37 = .ok (.goto (-28), 3) := by decide +kernel
theorem dX7_dropUntil_40 : decode cX7_dropUntil 40 = .ok (.iload_n 2, 1) := by decide +kernel
theorem dX7_dropUntil_41 : decode cX7_dropUntil 41 = .ok (.ireturn, 1) := by decide +kernel
abbrev rX7_dropUntil : Room := { frames := 2, cells := 0, slots := 0, locals := 43 }
set_option maxRecDepth 20000 in
theorem gd_X7_dropUntil_B34 {x : Cx} {y : Cy} (hy : Inj y) (h : OkM x y cX7_dropUntil RX7 4 (some .int) rX7_dropUntil) (q0 : Nat) (hq0 : q0 < 7) (kx1 : Int32 → Mem → Ans) (kb : Int32 → Int32 → Mem → Ans) (a1 : Int32) (a2 : Int32) (a3 : Int32) (hx1 : ∀ (b2 : Int32), ∀ M0 : Mem, G x y 40 [(2, .int b2)] [] M0 (kx1 b2 M0)) (hb : ∀ (b2 b3 : Int32), ∀ M0 : Mem, G x y 9 [(0, .ref (y.2.1 (sI q0 12))), (1, .int a1), (2, .int b2), (3, .int b3)] [] M0 (kb b2 b3 M0)) (M : Mem) : G x y 34 [(0, .ref (y.2.1 (sI q0 12))), (1, .int a1), (2, .int a2), (3, .int a3)] [] M (d_X7_dropUntil_B34 q0 kx1 kb a1 a2 a3 M) := by
  unfold d_X7_dropUntil_B34
  refine G_iinc (pc := 34) (v := a3 + (-1)) h.1 h.2.1 (fun v2 => [(3, .int v2), (0, .ref (y.2.1 (sI q0 12))), (1, .int a1), (2, .int a2)]) dX7_dropUntil_34 (by decide) 3 rfl rfl (fun _ => rfl) (fun v2 => ?_)
  refine G_goto (pc := 37) (tgt := 9) h.1 dX7_dropUntil_37 (by decide) ?_
  exact G_sub [1, 2, 3, 0] rfl (hb a2 v2 M)
set_option maxRecDepth 20000 in
theorem gd_X7_dropUntil_L9_body {x : Cx} {y : Cy} (hy : Inj y) (h : OkM x y cX7_dropUntil RX7 4 (some .int) rX7_dropUntil) (q0 : Nat) (hq0 : q0 < 7) (a1 : Int32) (kx1 : Int32 → Mem → Ans) (hx1 : ∀ (b2 : Int32), ∀ M0 : Mem, G x y 40 [(2, .int b2)] [] M0 (kx1 b2 M0)) (kb : Int32 → Int32 → Mem → Ans) (hb : ∀ (b2 b3 : Int32), ∀ M0 : Mem, G x y 9 [(0, .ref (y.2.1 (sI q0 12))), (1, .int a1), (2, .int b2), (3, .int b3)] [] M0 (kb b2 b3 M0)) (a2 : Int32) (a3 : Int32) (M : Mem) : G x y 9 [(0, .ref (y.2.1 (sI q0 12))), (1, .int a1), (2, .int a2), (3, .int a3)] [] M (d_X7_dropUntil_L9_body q0 a1 kx1 kb a2 a3 M) := by
  unfold d_X7_dropUntil_L9_body
  refine G_iload_n (pc := 9) h.1 dX7_dropUntil_9 rfl 3 rfl ?_
  refine G_if_lt (pc := 10) (tgt := 40) h.1 dX7_dropUntil_10 (by decide) ?_ ?_
  · exact G_sub [2] rfl (hx1 a2 M)
  · refine G_aload_n (pc := 13) h.1 dX7_dropUntil_13 rfl 0 rfl ?_
    refine G_get (pc := 14) (v := .ref (y.2.1 (sI q0 15))) h.1 fl_X7_18 (ids_s hq0 12 (by decide)) (eS12 hq0 _) rfl dX7_dropUntil_14 ?_
    refine G_iload_n (pc := 17) h.1 dX7_dropUntil_17 rfl 3 rfl ?_
    refine G_iald (pc := 18) h.1 (ids_s hq0 15 (by decide)) (eS15 hq0 _) dX7_dropUntil_18 ?_
    refine G_bipush (pc := 19) (v := (20)) h.1 dX7_dropUntil_19 (by decide) ?_
    refine G_iadd (pc := 21) h.1 dX7_dropUntil_21 ?_
    refine G_iload_n (pc := 22) h.1 dX7_dropUntil_22 rfl 1 rfl ?_
    refine G_icmp_gt (pc := 23) (tgt := 34) h.1 dX7_dropUntil_23 (by decide) ?_ ?_
    · exact G_sub [0, 1, 2, 3] rfl (gd_X7_dropUntil_B34 hy h q0 hq0 kx1 kb a1 a2 a3 hx1 hb M)
    · refine G_aload_n (pc := 26) h.1 dX7_dropUntil_26 rfl 0 rfl ?_
      refine G_iload_n (pc := 27) h.1 dX7_dropUntil_27 rfl 3 rfl ?_
      refine G_callVv (pc := 28) (As := [.int a3]) (rest := []) h.1 h.2.2.1 lk_X7_29 (ids_s hq0 12 (by decide)) (eS12 hq0 _) rfl rfl (c_X7_takeOut x.1.2.1 y hy q0 hq0 a3 M) rfl rfl (Nat.le_of_ble_eq_true rfl) ⟨rfl, rfl, Nat.le_of_ble_eq_true rfl, Nat.le_of_ble_eq_true rfl⟩ dX7_dropUntil_28 (fun r4 M3 => ?_)
      refine G_iinc (pc := 31) (v := a2 + (1)) h.1 h.2.1 (fun v5 => [(2, .int v5), (0, .ref (y.2.1 (sI q0 12))), (1, .int a1), (3, .int a3)]) dX7_dropUntil_31 (by decide) 2 rfl rfl (fun _ => rfl) (fun v5 => ?_)
      exact G_sub [1, 2, 0, 3] rfl (gd_X7_dropUntil_B34 hy h q0 hq0 kx1 kb a1 v5 a3 hx1 hb M3)
set_option maxRecDepth 20000 in
theorem gd_X7_dropUntil_L9 {x : Cx} {y : Cy} (hy : Inj y) (h : OkM x y cX7_dropUntil RX7 4 (some .int) rX7_dropUntil) (q0 : Nat) (hq0 : q0 < 7) (a1 : Int32) (kx1 : Int32 → Mem → Ans) (hx1 : ∀ (b2 : Int32), ∀ M0 : Mem, G x y 40 [(2, .int b2)] [] M0 (kx1 b2 M0)) : ∀ (n : Nat) (a2 : Int32) (a3 : Int32) (M : Mem), G x y 9 [(0, .ref (y.2.1 (sI q0 12))), (1, .int a1), (2, .int a2), (3, .int a3)] [] M (d_X7_dropUntil_L9 q0 a1 kx1 n a2 a3 M) := by
  intro n
  induction n with
  | zero => intro a2 a3 M; exact G_none
  | succ n ih => intro a2 a3 M; exact gd_X7_dropUntil_L9_body hy h q0 hq0 a1 kx1 hx1 _ ih a2 a3 M
set_option maxRecDepth 20000 in
theorem c_X7_dropUntil (l : Launch) (y : Cy) (hy : Inj y) (q0 : Nat) (hq0 : q0 < 7) (p1 : Int32) (M : Mem) : CT l y yX7_dropUntil cX7_dropUntil 4 (some .int) rX7_dropUntil [.ref (y.2.1 (sI q0 12)), .int p1] M (d_X7_dropUntil q0 p1 M) := by
  refine CT_of (by decide) hy (Nat.le_of_ble_eq_true rfl) (fun x hxl h => ?_)
  show G x y 0 [(0, .ref (y.2.1 (sI q0 12))), (1, .int p1)] [] M _
  unfold d_X7_dropUntil
  refine G_iconst (pc := 0) (v := (0)) h.1 dX7_dropUntil_0 (by decide) ?_
  refine G_istore_n (pc := 1) h.1 h.2.1 [(2, .int (0 : Int32)), (0, .ref (y.2.1 (sI q0 12))), (1, .int p1)] dX7_dropUntil_1 rfl (by decide) rfl ?_
  refine G_aload_n (pc := 2) h.1 dX7_dropUntil_2 rfl 1 rfl ?_
  refine G_get (pc := 3) (v := .int (M (sI q0 12) 0)) h.1 fl_X7_21 (ids_s hq0 12 (by decide)) (eS12 hq0 _) rfl dX7_dropUntil_3 ?_
  refine G_iconst (pc := 6) (v := (1)) h.1 dX7_dropUntil_6 (by decide) ?_
  refine G_isub (pc := 7) h.1 dX7_dropUntil_7 ?_
  refine G_top (fun v1 => ?_)
  refine G_istore_n (pc := 8) h.1 h.2.1 [(3, .int v1), (2, .int (0 : Int32)), (0, .ref (y.2.1 (sI q0 12))), (1, .int p1)] dX7_dropUntil_8 rfl (by decide) rfl ?_
  refine G_sub [2, 3, 1, 0] rfl (gd_X7_dropUntil_L9 hy h q0 hq0 p1 _ (fun v6 M7 => ?_) fuelN (0 : Int32) v1 M)
  refine G_iload_n (pc := 40) h.1 dX7_dropUntil_40 rfl 0 rfl ?_
  exact G_ret (pc := 41) h rfl dX7_dropUntil_41
theorem dX8_within_0 : decode cX8_within 0 = .ok (.iload_n 0, 1) := by decide +kernel
theorem dX8_within_1 : decode cX8_within 1 = .ok (.iload_n 1, 1) := by decide +kernel
theorem dX8_within_2 : decode cX8_within 2 = .ok (.if_icmp .lt 12, 3) := by decide +kernel
theorem dX8_within_5 : decode cX8_within 5 = .ok (.iload_n 0, 1) := by decide +kernel
theorem dX8_within_6 : decode cX8_within 6 = .ok (.iload_n 2, 1) := by decide +kernel
theorem dX8_within_7 : decode cX8_within 7 = .ok (.if_icmp .gt 7, 3) := by decide +kernel
theorem dX8_within_10 : decode cX8_within 10 = .ok (.iconst 1, 1) := by decide +kernel
theorem dX8_within_11 : decode cX8_within 11 = .ok (.goto 4, 3) := by decide +kernel
theorem dX8_within_14 : decode cX8_within 14 = .ok (.iconst 0, 1) := by decide +kernel
theorem dX8_within_15 : decode cX8_within 15 = .ok (.ireturn, 1) := by decide +kernel
abbrev rX8_within : Room := { frames := 0, cells := 0, slots := 0, locals := 0 }
set_option maxRecDepth 20000 in
theorem c_X8_within (l : Launch) (y : Cy) (hy : Inj y) (p0 : Int32) (p1 : Int32) (p2 : Int32) (M : Mem) : CT l y yX8_within cX8_within 3 (some .boolean) rX8_within [.int p0, .int p1, .int p2] M (d_X8_within p0 p1 p2 M) := by
  refine CT_of (by decide) hy (Nat.le_of_ble_eq_true rfl) (fun x hxl h => ?_)
  show G x y 0 [(0, .int p0), (1, .int p1), (2, .int p2)] [] M _
  unfold d_X8_within
  refine G_iload_n (pc := 0) h.1 dX8_within_0 rfl 0 rfl ?_
  refine G_iload_n (pc := 1) h.1 dX8_within_1 rfl 1 rfl ?_
  refine G_icmp_lt (pc := 2) (tgt := 14) h.1 dX8_within_2 (by decide) ?_ ?_
  · refine G_iconst (pc := 14) (v := (0)) h.1 dX8_within_14 (by decide) ?_
    exact G_ret (pc := 15) h rfl dX8_within_15
  · refine G_iload_n (pc := 5) h.1 dX8_within_5 rfl 0 rfl ?_
    refine G_iload_n (pc := 6) h.1 dX8_within_6 rfl 2 rfl ?_
    refine G_icmp_gt (pc := 7) (tgt := 14) h.1 dX8_within_7 (by decide) ?_ ?_
    · refine G_iconst (pc := 14) (v := (0)) h.1 dX8_within_14 (by decide) ?_
      exact G_ret (pc := 15) h rfl dX8_within_15
    · refine G_iconst (pc := 10) (v := (1)) h.1 dX8_within_10 (by decide) ?_
      refine G_goto (pc := 11) (tgt := 15) h.1 dX8_within_11 (by decide) ?_
      exact G_ret (pc := 15) h rfl dX8_within_15
theorem dX8_addRecipe_0 : decode cX8_addRecipe 0 = .ok (.iload_n 1, 1) := by decide +kernel
theorem dX8_addRecipe_1 : decode cX8_addRecipe 1 = .ok (.iconst 0, 1) := by decide +kernel
theorem dX8_addRecipe_2 : decode cX8_addRecipe 2 = .ok (.sipush 3000, 3) := by decide +kernel
theorem dX8_addRecipe_5 : decode cX8_addRecipe 5 = .ok (.invokestatic 58, 3) := by decide +kernel
theorem dX8_addRecipe_8 : decode cX8_addRecipe 8 = .ok (.ifCond .eq 39, 3) := by decide +kernel
theorem dX8_addRecipe_11 : decode cX8_addRecipe 11 = .ok (.iload_n 2, 1) := by decide +kernel
theorem dX8_addRecipe_12 : decode cX8_addRecipe 12 = .ok (.iconst 1, 1) := by decide +kernel
theorem dX8_addRecipe_13 : decode cX8_addRecipe 13 = .ok (.sipush 500, 3) := by decide +kernel
theorem dX8_addRecipe_16 : decode cX8_addRecipe 16 = .ok (.invokestatic 58, 3) := by decide +kernel
theorem dX8_addRecipe_19 : decode cX8_addRecipe 19 = .ok (.ifCond .eq 28, 3) := by decide +kernel
theorem dX8_addRecipe_22 : decode cX8_addRecipe 22 = .ok (.iload_n 3, 1) := by decide +kernel
theorem dX8_addRecipe_23 : decode cX8_addRecipe 23 = .ok (.iconst 1, 1) := by decide +kernel
theorem dX8_addRecipe_24 : decode cX8_addRecipe 24 = .ok (.bipush 20, 2) := by decide +kernel
theorem dX8_addRecipe_26 : decode cX8_addRecipe 26 = .ok (.invokestatic 58, 3) := by decide +kernel
theorem dX8_addRecipe_29 : decode cX8_addRecipe 29 = .ok (.ifCond .eq 18, 3) := by decide +kernel
theorem dX8_addRecipe_32 : decode cX8_addRecipe 32 = .ok (.iload 4, 2) := by decide +kernel
theorem dX8_addRecipe_34 : decode cX8_addRecipe 34 = .ok (.iconst 0, 1) := by decide +kernel
theorem dX8_addRecipe_35 : decode cX8_addRecipe 35 = .ok (.bipush 9, 2) := by decide +kernel
theorem dX8_addRecipe_37 : decode cX8_addRecipe 37 = .ok (.invokestatic 58, 3) := by decide +kernel
theorem dX8_addRecipe_40 : decode cX8_addRecipe 40 = .ok (.ifCond .eq 7, 3) := by decide +kernel
theorem dX8_addRecipe_43 : decode cX8_addRecipe 43 = .ok (.iconst 1, 1) := by decide +kernel
theorem dX8_addRecipe_44 : decode cX8_addRecipe 44 = .ok (.goto 4, 3) := by decide +kernel
theorem dX8_addRecipe_47 : decode cX8_addRecipe 47 = .ok (.iconst 0, 1) := by decide +kernel
theorem dX8_addRecipe_48 : decode cX8_addRecipe 48 = .ok (.istore 5, 2) := by decide +kernel
theorem dX8_addRecipe_50 : decode cX8_addRecipe 50 = .ok (.iload 5, 2) := by decide +kernel
theorem dX8_addRecipe_52 : decode cX8_addRecipe 52 = .ok (.ifCond .ne 6, 3) := by decide +kernel
theorem dX8_addRecipe_55 : decode cX8_addRecipe 55 = .ok (.bipush (-2), 2) := by decide +kernel
theorem dX8_addRecipe_57 : decode cX8_addRecipe 57 = .ok (.ireturn, 1) := by decide +kernel
theorem dX8_addRecipe_58 : decode cX8_addRecipe 58 = .ok (.aload_n 0, 1) := by decide +kernel
theorem dX8_addRecipe_59 : decode cX8_addRecipe 59 = .ok (.getfield 12, 3) := by decide +kernel
theorem dX8_addRecipe_62 : decode cX8_addRecipe 62 = .ok (.getfield 62, 3) := by decide +kernel
theorem dX8_addRecipe_65 : decode cX8_addRecipe 65 = .ok (.getfield 66, 3) := by decide +kernel
theorem dX8_addRecipe_68 : decode cX8_addRecipe 68 = .ok (.bipush 8, 2) := by decide +kernel
theorem dX8_addRecipe_70 : decode cX8_addRecipe 70 = .ok (.if_icmp .lt 6, 3) := by decide +kernel
theorem dX8_addRecipe_73 : decode cX8_addRecipe 73 = .ok (.bipush (-3), 2) := by decide +kernel
theorem dX8_addRecipe_75 : decode cX8_addRecipe 75 = .ok (.ireturn, 1) := by decide +kernel
theorem dX8_addRecipe_76 : decode cX8_addRecipe 76 = .ok (.aload_n 0, 1) := by decide +kernel
theorem dX8_addRecipe_77 : decode cX8_addRecipe 77 = .ok (.getfield 29, 3) := by decide +kernel
theorem dX8_addRecipe_80 : decode cX8_addRecipe 80 = .ok (.aload_n 0, 1) := by decide +kernel
theorem dX8_addRecipe_81 : decode cX8_addRecipe 81 = .ok (.getfield 12, 3) := by decide +kernel
theorem dX8_addRecipe_84 : decode cX8_addRecipe 84 = .ok (.invokevirtual 72, 3) := by decide +kernel
theorem dX8_addRecipe_87 : decode cX8_addRecipe 87 = .ok (.aload_n 0, 1) := by decide +kernel
theorem dX8_addRecipe_88 : decode cX8_addRecipe 88 = .ok (.getfield 12, 3) := by decide +kernel
theorem dX8_addRecipe_91 : decode cX8_addRecipe 91 = .ok (.getfield 62, 3) := by decide +kernel
theorem dX8_addRecipe_94 : decode cX8_addRecipe 94 = .ok (.iload_n 1, 1) := by decide +kernel
theorem dX8_addRecipe_95 : decode cX8_addRecipe 95 = .ok (.iload_n 2, 1) := by decide +kernel
theorem dX8_addRecipe_96 : decode cX8_addRecipe 96 = .ok (.iload_n 3, 1) := by decide +kernel
theorem dX8_addRecipe_97 : decode cX8_addRecipe 97 = .ok (.iload 4, 2) := by decide +kernel
theorem dX8_addRecipe_99 : decode cX8_addRecipe 99 = .ok (.invokevirtual 76, 3) := by decide +kernel
theorem dX8_addRecipe_102 : decode cX8_addRecipe 102 = .ok (.ireturn, 1) := by decide +kernel
abbrev rX8_addRecipe : Room := { frames := 4, cells := 0, slots := 0, locals := 82 }
set_option maxRecDepth 20000 in
theorem gd_X8_addRecipe_B48 {x : Cx} {y : Cy} (hy : Inj y) (h : OkM x y cX8_addRecipe RX8 6 (some .int) rX8_addRecipe) (a1 : Int32) (a2 : Int32) (a3 : Int32) (a4 : Int32) (s0 : Int32) (M : Mem) : G x y 48 [(0, .ref (y.2.1 141)), (1, .int a1), (2, .int a2), (3, .int a3), (4, .int a4)] [.int s0] M (d_X8_addRecipe_B48 a1 a2 a3 a4 s0 M) := by
  unfold d_X8_addRecipe_B48
  refine G_istore (pc := 48) h.1 h.2.1 [(5, .int s0), (0, .ref (y.2.1 141)), (1, .int a1), (2, .int a2), (3, .int a3), (4, .int a4)] dX8_addRecipe_48 (by decide) rfl ?_
  refine G_iload (pc := 50) h.1 dX8_addRecipe_50 0 rfl ?_
  refine G_if_ne (pc := 52) (tgt := 58) h.1 dX8_addRecipe_52 (by decide) ?_ ?_
  · refine G_aload_n (pc := 58) h.1 dX8_addRecipe_58 rfl 1 rfl ?_
    refine G_get (pc := 59) (v := .ref (y.2.1 (sI 0 0))) h.1 fl_X8_12 lN141 (eM141 _) rfl dX8_addRecipe_59 ?_
    refine G_get (pc := 62) (v := .ref (y.2.1 (sI 0 1))) h.1 fl_X8_62 (ids_s h7_0 0 (by decide)) (eS0 h7_0 _) rfl dX8_addRecipe_62 ?_
    refine G_get (pc := 65) (v := .int (M (sI 0 1) 0)) h.1 fl_X8_66 (ids_s h7_0 1 (by decide)) (eS1 h7_0 _) rfl dX8_addRecipe_65 ?_
    refine G_bipush (pc := 68) (v := (8)) h.1 dX8_addRecipe_68 (by decide) ?_
    refine G_icmp_lt (pc := 70) (tgt := 76) h.1 dX8_addRecipe_70 (by decide) ?_ ?_
    · refine G_aload_n (pc := 76) h.1 dX8_addRecipe_76 rfl 1 rfl ?_
      refine G_get (pc := 77) (v := .ref (y.2.1 134)) h.1 fl_X8_29 lN141 (eM141 _) rfl dX8_addRecipe_77 ?_
      refine G_aload_n (pc := 80) h.1 dX8_addRecipe_80 rfl 1 rfl ?_
      refine G_get (pc := 81) (v := .ref (y.2.1 (sI 0 0))) h.1 fl_X8_12 lN141 (eM141 _) rfl dX8_addRecipe_81 ?_
      refine G_callVv (pc := 84) (As := [.ref (y.2.1 (sI 0 0))]) (rest := []) h.1 h.2.2.1 lk_X8_72 lN134 (eM134 _) rfl rfl (c_X2_push x.1.2.1 y hy 0 h7_0 M) rfl rfl (Nat.le_of_ble_eq_true rfl) ⟨rfl, rfl, Nat.le_of_ble_eq_true rfl, Nat.le_of_ble_eq_true rfl⟩ dX8_addRecipe_84 (fun r4 M3 => ?_)
      refine G_aload_n (pc := 87) h.1 dX8_addRecipe_87 rfl 1 rfl ?_
      refine G_get (pc := 88) (v := .ref (y.2.1 (sI 0 0))) h.1 fl_X8_12 lN141 (eM141 _) rfl dX8_addRecipe_88 ?_
      refine G_get (pc := 91) (v := .ref (y.2.1 (sI 0 1))) h.1 fl_X8_62 (ids_s h7_0 0 (by decide)) (eS0 h7_0 _) rfl dX8_addRecipe_91 ?_
      refine G_iload_n (pc := 94) h.1 dX8_addRecipe_94 rfl 2 rfl ?_
      refine G_iload_n (pc := 95) h.1 dX8_addRecipe_95 rfl 3 rfl ?_
      refine G_iload_n (pc := 96) h.1 dX8_addRecipe_96 rfl 4 rfl ?_
      refine G_iload (pc := 97) h.1 dX8_addRecipe_97 5 rfl ?_
      refine G_callV (pc := 99) (As := [.int a1, .int a2, .int a3, .int a4]) (rest := []) h.1 h.2.2.1 lk_X8_76 (ids_s h7_0 1 (by decide)) (eS1 h7_0 _) rfl rfl (c_X4_append x.1.2.1 y hy 0 h7_0 a1 a2 a3 a4 M3) rfl rfl (Nat.le_of_ble_eq_true rfl) ⟨rfl, rfl, Nat.le_of_ble_eq_true rfl, Nat.le_of_ble_eq_true rfl⟩ dX8_addRecipe_99 (fun r6 M5 => ?_)
      exact G_ret (pc := 102) h rfl dX8_addRecipe_102
    · refine G_bipush (pc := 73) (v := (-3)) h.1 dX8_addRecipe_73 (by decide) ?_
      exact G_ret (pc := 75) h rfl dX8_addRecipe_75
  · refine G_bipush (pc := 55) (v := (-2)) h.1 dX8_addRecipe_55 (by decide) ?_
    exact G_ret (pc := 57) h rfl dX8_addRecipe_57
set_option maxRecDepth 20000 in
theorem gd_X8_addRecipe_B47 {x : Cx} {y : Cy} (hy : Inj y) (h : OkM x y cX8_addRecipe RX8 6 (some .int) rX8_addRecipe) (a1 : Int32) (a2 : Int32) (a3 : Int32) (a4 : Int32) (M : Mem) : G x y 47 [(0, .ref (y.2.1 141)), (1, .int a1), (2, .int a2), (3, .int a3), (4, .int a4)] [] M (d_X8_addRecipe_B47 a1 a2 a3 a4 M) := by
  unfold d_X8_addRecipe_B47
  refine G_iconst (pc := 47) (v := (0)) h.1 dX8_addRecipe_47 (by decide) ?_
  exact G_sub [0, 1, 2, 3, 4] rfl (gd_X8_addRecipe_B48 hy h a1 a2 a3 a4 (0 : Int32) M)
set_option maxRecDepth 20000 in
theorem c_X8_addRecipe (l : Launch) (y : Cy) (hy : Inj y) (p1 : Int32) (p2 : Int32) (p3 : Int32) (p4 : Int32) (M : Mem) : CT l y yX8_addRecipe cX8_addRecipe 6 (some .int) rX8_addRecipe [.ref (y.2.1 141), .int p1, .int p2, .int p3, .int p4] M (d_X8_addRecipe p1 p2 p3 p4 M) := by
  refine CT_of (by decide) hy (Nat.le_of_ble_eq_true rfl) (fun x hxl h => ?_)
  show G x y 0 [(0, .ref (y.2.1 141)), (1, .int p1), (2, .int p2), (3, .int p3), (4, .int p4)] [] M _
  unfold d_X8_addRecipe
  refine G_iload_n (pc := 0) h.1 dX8_addRecipe_0 rfl 1 rfl ?_
  refine G_iconst (pc := 1) (v := (0)) h.1 dX8_addRecipe_1 (by decide) ?_
  refine G_sipush (pc := 2) (v := (3000)) h.1 dX8_addRecipe_2 (by decide) ?_
  refine G_callS (pc := 5) (As := [.int p1, .int (0 : Int32), .int (3000 : Int32)]) (rest := []) h.1 h.2.2.1 lk_X8_58 (c_X8_within x.1.2.1 y hy p1 (0 : Int32) (3000 : Int32) M) rfl rfl (Nat.le_of_ble_eq_true rfl) ⟨rfl, rfl, Nat.le_of_ble_eq_true rfl, Nat.le_of_ble_eq_true rfl⟩ dX8_addRecipe_5 (fun r2 M1 => ?_)
  refine G_if_eq (pc := 8) (tgt := 47) h.1 dX8_addRecipe_8 (by decide) ?_ ?_
  · exact G_sub [0, 1, 2, 3, 4] rfl (gd_X8_addRecipe_B47 hy h p1 p2 p3 p4 M1)
  · refine G_iload_n (pc := 11) h.1 dX8_addRecipe_11 rfl 2 rfl ?_
    refine G_iconst (pc := 12) (v := (1)) h.1 dX8_addRecipe_12 (by decide) ?_
    refine G_sipush (pc := 13) (v := (500)) h.1 dX8_addRecipe_13 (by decide) ?_
    refine G_callS (pc := 16) (As := [.int p2, .int (1 : Int32), .int (500 : Int32)]) (rest := []) h.1 h.2.2.1 lk_X8_58 (c_X8_within x.1.2.1 y hy p2 (1 : Int32) (500 : Int32) M1) rfl rfl (Nat.le_of_ble_eq_true rfl) ⟨rfl, rfl, Nat.le_of_ble_eq_true rfl, Nat.le_of_ble_eq_true rfl⟩ dX8_addRecipe_16 (fun r8 M7 => ?_)
    refine G_if_eq (pc := 19) (tgt := 47) h.1 dX8_addRecipe_19 (by decide) ?_ ?_
    · exact G_sub [0, 1, 2, 3, 4] rfl (gd_X8_addRecipe_B47 hy h p1 p2 p3 p4 M7)
    · refine G_iload_n (pc := 22) h.1 dX8_addRecipe_22 rfl 3 rfl ?_
      refine G_iconst (pc := 23) (v := (1)) h.1 dX8_addRecipe_23 (by decide) ?_
      refine G_bipush (pc := 24) (v := (20)) h.1 dX8_addRecipe_24 (by decide) ?_
      refine G_callS (pc := 26) (As := [.int p3, .int (1 : Int32), .int (20 : Int32)]) (rest := []) h.1 h.2.2.1 lk_X8_58 (c_X8_within x.1.2.1 y hy p3 (1 : Int32) (20 : Int32) M7) rfl rfl (Nat.le_of_ble_eq_true rfl) ⟨rfl, rfl, Nat.le_of_ble_eq_true rfl, Nat.le_of_ble_eq_true rfl⟩ dX8_addRecipe_26 (fun r10 M9 => ?_)
      refine G_if_eq (pc := 29) (tgt := 47) h.1 dX8_addRecipe_29 (by decide) ?_ ?_
      · exact G_sub [0, 1, 2, 3, 4] rfl (gd_X8_addRecipe_B47 hy h p1 p2 p3 p4 M9)
      · refine G_iload (pc := 32) h.1 dX8_addRecipe_32 4 rfl ?_
        refine G_iconst (pc := 34) (v := (0)) h.1 dX8_addRecipe_34 (by decide) ?_
        refine G_bipush (pc := 35) (v := (9)) h.1 dX8_addRecipe_35 (by decide) ?_
        refine G_callS (pc := 37) (As := [.int p4, .int (0 : Int32), .int (9 : Int32)]) (rest := []) h.1 h.2.2.1 lk_X8_58 (c_X8_within x.1.2.1 y hy p4 (0 : Int32) (9 : Int32) M9) rfl rfl (Nat.le_of_ble_eq_true rfl) ⟨rfl, rfl, Nat.le_of_ble_eq_true rfl, Nat.le_of_ble_eq_true rfl⟩ dX8_addRecipe_37 (fun r12 M11 => ?_)
        refine G_if_eq (pc := 40) (tgt := 47) h.1 dX8_addRecipe_40 (by decide) ?_ ?_
        · exact G_sub [0, 1, 2, 3, 4] rfl (gd_X8_addRecipe_B47 hy h p1 p2 p3 p4 M11)
        · refine G_iconst (pc := 43) (v := (1)) h.1 dX8_addRecipe_43 (by decide) ?_
          refine G_goto (pc := 44) (tgt := 48) h.1 dX8_addRecipe_44 (by decide) ?_
          exact G_sub [0, 1, 2, 3, 4] rfl (gd_X8_addRecipe_B48 hy h p1 p2 p3 p4 (1 : Int32) M11)
theorem dX8_forecastToEnd_0 : decode cX8_forecastToEnd 0 = .ok (.aload_n 0, 1) := by decide +kernel
theorem dX8_forecastToEnd_1 : decode cX8_forecastToEnd 1 = .ok (.getfield 43, 3) := by decide +kernel
theorem dX8_forecastToEnd_4 : decode cX8_forecastToEnd 4 = .ok (.aload_n 0, 1) := by decide +kernel
theorem dX8_forecastToEnd_5 : decode cX8_forecastToEnd 5 = .ok (.getfield 12, 3) := by decide +kernel
theorem dX8_forecastToEnd_8 : decode cX8_forecastToEnd 8 = .ok (.invokevirtual 183, 3) := by decide +kernel
theorem dX8_forecastToEnd_11 : decode cX8_forecastToEnd 11 = .ok (.aload_n 0, 1) := by decide +kernel
theorem dX8_forecastToEnd_12 : decode cX8_forecastToEnd 12 = .ok (.getfield 43, 3) := by decide +kernel
theorem dX8_forecastToEnd_15 : decode cX8_forecastToEnd 15 = .ok (.invokevirtual 274, 3) := by decide +kernel
theorem dX8_forecastToEnd_18 : decode cX8_forecastToEnd 18 = .ok (.return_, 1) := by decide +kernel
abbrev rX8_forecastToEnd : Room := { frames := 4, cells := 0, slots := 0, locals := 92 }
set_option maxRecDepth 20000 in
theorem c_X8_forecastToEnd (l : Launch) (y : Cy) (hy : Inj y) (M : Mem) : CT l y yX8_forecastToEnd cX8_forecastToEnd 1 none rX8_forecastToEnd [.ref (y.2.1 141)] M (d_X8_forecastToEnd M) := by
  refine CT_of (by decide) hy (Nat.le_of_ble_eq_true rfl) (fun x hxl h => ?_)
  show G x y 0 [(0, .ref (y.2.1 141))] [] M _
  unfold d_X8_forecastToEnd
  refine G_aload_n (pc := 0) h.1 dX8_forecastToEnd_0 rfl 0 rfl ?_
  refine G_get (pc := 1) (v := .ref (y.2.1 (cI 0 0))) h.1 fl_X8_43 lN141 (eM141 _) rfl dX8_forecastToEnd_1 ?_
  refine G_aload_n (pc := 4) h.1 dX8_forecastToEnd_4 rfl 0 rfl ?_
  refine G_get (pc := 5) (v := .ref (y.2.1 (sI 0 0))) h.1 fl_X8_12 lN141 (eM141 _) rfl dX8_forecastToEnd_5 ?_
  refine G_callVv (pc := 8) (As := [.ref (y.2.1 (sI 0 0))]) (rest := []) h.1 h.2.2.1 lk_X8_183 (ids_c h2_0 0 (by decide)) (eC0 h2_0 _) rfl rfl (c_X1_begin x.1.2.1 y hy 0 0 h2_0 h7_0 M) rfl rfl (Nat.le_of_ble_eq_true rfl) ⟨rfl, rfl, Nat.le_of_ble_eq_true rfl, Nat.le_of_ble_eq_true rfl⟩ dX8_forecastToEnd_8 (fun r2 M1 => ?_)
  refine G_aload_n (pc := 11) h.1 dX8_forecastToEnd_11 rfl 0 rfl ?_
  refine G_get (pc := 12) (v := .ref (y.2.1 (cI 0 0))) h.1 fl_X8_43 lN141 (eM141 _) rfl dX8_forecastToEnd_12 ?_
  refine G_callVv (pc := 15) (As := []) (rest := []) h.1 h.2.2.1 lk_X8_274 (ids_c h2_0 0 (by decide)) (eC0 h2_0 _) rfl rfl (c_X1_passToEnd x.1.2.1 y hy 0 h2_0 M1) rfl rfl (Nat.le_of_ble_eq_true rfl) ⟨rfl, rfl, Nat.le_of_ble_eq_true rfl, Nat.le_of_ble_eq_true rfl⟩ dX8_forecastToEnd_15 (fun r4 M3 => ?_)
  exact G_vret (pc := 18) h dX8_forecastToEnd_18
theorem dX8_countDoomed_0 : decode cX8_countDoomed 0 = .ok (.aload_n 0, 1) := by decide +kernel
theorem dX8_countDoomed_1 : decode cX8_countDoomed 1 = .ok (.invokevirtual 277, 3) := by decide +kernel
theorem dX8_countDoomed_4 : decode cX8_countDoomed 4 = .ok (.aload_n 0, 1) := by decide +kernel
theorem dX8_countDoomed_5 : decode cX8_countDoomed 5 = .ok (.getfield 43, 3) := by decide +kernel
theorem dX8_countDoomed_8 : decode cX8_countDoomed 8 = .ok (.invokevirtual 280, 3) := by decide +kernel
theorem dX8_countDoomed_11 : decode cX8_countDoomed 11 = .ok (.ireturn, 1) := by decide +kernel
abbrev rX8_countDoomed : Room := { frames := 5, cells := 0, slots := 0, locals := 112 }
set_option maxRecDepth 20000 in
theorem c_X8_countDoomed (l : Launch) (y : Cy) (hy : Inj y) (M : Mem) : CT l y yX8_countDoomed cX8_countDoomed 1 (some .int) rX8_countDoomed [.ref (y.2.1 141)] M (d_X8_countDoomed M) := by
  refine CT_of (by decide) hy (Nat.le_of_ble_eq_true rfl) (fun x hxl h => ?_)
  show G x y 0 [(0, .ref (y.2.1 141))] [] M _
  unfold d_X8_countDoomed
  refine G_aload_n (pc := 0) h.1 dX8_countDoomed_0 rfl 0 rfl ?_
  refine G_callVv (pc := 1) (As := []) (rest := []) h.1 h.2.2.1 lk_X8_277 lN141 (eM141 _) rfl rfl (c_X8_forecastToEnd x.1.2.1 y hy M) rfl rfl (Nat.le_of_ble_eq_true rfl) ⟨rfl, rfl, Nat.le_of_ble_eq_true rfl, Nat.le_of_ble_eq_true rfl⟩ dX8_countDoomed_1 (fun r2 M1 => ?_)
  refine G_aload_n (pc := 4) h.1 dX8_countDoomed_4 rfl 0 rfl ?_
  refine G_get (pc := 5) (v := .ref (y.2.1 (cI 0 0))) h.1 fl_X8_43 lN141 (eM141 _) rfl dX8_countDoomed_5 ?_
  refine G_callV (pc := 8) (As := []) (rest := []) h.1 h.2.2.1 lk_X8_280 (ids_c h2_0 0 (by decide)) (eC0 h2_0 _) rfl rfl (c_X1_countSpoiled x.1.2.1 y hy 0 h2_0 M1) rfl rfl (Nat.le_of_ble_eq_true rfl) ⟨rfl, rfl, Nat.le_of_ble_eq_true rfl, Nat.le_of_ble_eq_true rfl⟩ dX8_countDoomed_8 (fun r4 M3 => ?_)
  exact G_ret (pc := 11) h rfl dX8_countDoomed_11
theorem dX8_setHeat_0 : decode cX8_setHeat 0 = .ok (.iload_n 1, 1) := by decide +kernel
theorem dX8_setHeat_1 : decode cX8_setHeat 1 = .ok (.iconst 0, 1) := by decide +kernel
theorem dX8_setHeat_2 : decode cX8_setHeat 2 = .ok (.sipush 300, 3) := by decide +kernel
theorem dX8_setHeat_5 : decode cX8_setHeat 5 = .ok (.invokestatic 58, 3) := by decide +kernel
theorem dX8_setHeat_8 : decode cX8_setHeat 8 = .ok (.ifCond .ne 6, 3) := by decide +kernel
theorem dX8_setHeat_11 : decode cX8_setHeat 11 = .ok (.bipush (-2), 2) := by decide +kernel
theorem dX8_setHeat_13 : decode cX8_setHeat 13 = .ok (.ireturn, 1) := by decide +kernel
theorem dX8_setHeat_14 : decode cX8_setHeat 14 = .ok (.iload_n 1, 1) := by decide +kernel
theorem dX8_setHeat_15 : decode cX8_setHeat 15 = .ok (.aload_n 0, 1) := by decide +kernel
theorem dX8_setHeat_16 : decode cX8_setHeat 16 = .ok (.getfield 12, 3) := by decide +kernel
theorem dX8_setHeat_19 : decode cX8_setHeat 19 = .ok (.getfield 80, 3) := by decide +kernel
theorem dX8_setHeat_22 : decode cX8_setHeat 22 = .ok (.if_icmp .ne 6, 3) := by decide +kernel
theorem dX8_setHeat_25 : decode cX8_setHeat 25 = .ok (.bipush (-5), 2) := by decide +kernel
theorem dX8_setHeat_27 : decode cX8_setHeat 27 = .ok (.ireturn, 1) := by decide +kernel
theorem dX8_setHeat_28 : decode cX8_setHeat 28 = .ok (.aload_n 0, 1) := by decide +kernel
theorem dX8_setHeat_29 : decode cX8_setHeat 29 = .ok (.getfield 29, 3) := by decide +kernel
theorem dX8_setHeat_32 : decode cX8_setHeat 32 = .ok (.aload_n 0, 1) := by decide +kernel
theorem dX8_setHeat_33 : decode cX8_setHeat 33 = .ok (.getfield 12, 3) := by decide +kernel
theorem dX8_setHeat_36 : decode cX8_setHeat 36 = .ok (.invokevirtual 72, 3) := by decide +kernel
theorem dX8_setHeat_39 : decode cX8_setHeat 39 = .ok (.aload_n 0, 1) := by decide +kernel
theorem dX8_setHeat_40 : decode cX8_setHeat 40 = .ok (.getfield 12, 3) := by decide +kernel
theorem dX8_setHeat_43 : decode cX8_setHeat 43 = .ok (.iload_n 1, 1) := by decide +kernel
theorem dX8_setHeat_44 : decode cX8_setHeat 44 = .ok (.putfield 80, 3) := by decide +kernel
theorem dX8_setHeat_47 : decode cX8_setHeat 47 = .ok (.aload_n 0, 1) := by decide +kernel
theorem dX8_setHeat_48 : decode cX8_setHeat 48 = .ok (.invokevirtual 83, 3) := by decide +kernel
theorem dX8_setHeat_51 : decode cX8_setHeat 51 = .ok (.ireturn, 1) := by decide +kernel
abbrev rX8_setHeat : Room := { frames := 6, cells := 0, slots := 0, locals := 132 }
set_option maxRecDepth 20000 in
theorem c_X8_setHeat (l : Launch) (y : Cy) (hy : Inj y) (p1 : Int32) (M : Mem) : CT l y yX8_setHeat cX8_setHeat 2 (some .int) rX8_setHeat [.ref (y.2.1 141), .int p1] M (d_X8_setHeat p1 M) := by
  refine CT_of (by decide) hy (Nat.le_of_ble_eq_true rfl) (fun x hxl h => ?_)
  show G x y 0 [(0, .ref (y.2.1 141)), (1, .int p1)] [] M _
  unfold d_X8_setHeat
  refine G_iload_n (pc := 0) h.1 dX8_setHeat_0 rfl 1 rfl ?_
  refine G_iconst (pc := 1) (v := (0)) h.1 dX8_setHeat_1 (by decide) ?_
  refine G_sipush (pc := 2) (v := (300)) h.1 dX8_setHeat_2 (by decide) ?_
  refine G_callS (pc := 5) (As := [.int p1, .int (0 : Int32), .int (300 : Int32)]) (rest := []) h.1 h.2.2.1 lk_X8_58 (c_X8_within x.1.2.1 y hy p1 (0 : Int32) (300 : Int32) M) rfl rfl (Nat.le_of_ble_eq_true rfl) ⟨rfl, rfl, Nat.le_of_ble_eq_true rfl, Nat.le_of_ble_eq_true rfl⟩ dX8_setHeat_5 (fun r2 M1 => ?_)
  refine G_if_ne (pc := 8) (tgt := 14) h.1 dX8_setHeat_8 (by decide) ?_ ?_
  · refine G_iload_n (pc := 14) h.1 dX8_setHeat_14 rfl 1 rfl ?_
    refine G_aload_n (pc := 15) h.1 dX8_setHeat_15 rfl 0 rfl ?_
    refine G_get (pc := 16) (v := .ref (y.2.1 (sI 0 0))) h.1 fl_X8_12 lN141 (eM141 _) rfl dX8_setHeat_16 ?_
    refine G_get (pc := 19) (v := .int (M1 (sI 0 0) 3)) h.1 fl_X8_80 (ids_s h7_0 0 (by decide)) (eS0 h7_0 _) rfl dX8_setHeat_19 ?_
    refine G_icmp_ne (pc := 22) (tgt := 28) h.1 dX8_setHeat_22 (by decide) ?_ ?_
    · refine G_aload_n (pc := 28) h.1 dX8_setHeat_28 rfl 0 rfl ?_
      refine G_get (pc := 29) (v := .ref (y.2.1 134)) h.1 fl_X8_29 lN141 (eM141 _) rfl dX8_setHeat_29 ?_
      refine G_aload_n (pc := 32) h.1 dX8_setHeat_32 rfl 0 rfl ?_
      refine G_get (pc := 33) (v := .ref (y.2.1 (sI 0 0))) h.1 fl_X8_12 lN141 (eM141 _) rfl dX8_setHeat_33 ?_
      refine G_callVv (pc := 36) (As := [.ref (y.2.1 (sI 0 0))]) (rest := []) h.1 h.2.2.1 lk_X8_72 lN134 (eM134 _) rfl rfl (c_X2_push x.1.2.1 y hy 0 h7_0 M1) rfl rfl (Nat.le_of_ble_eq_true rfl) ⟨rfl, rfl, Nat.le_of_ble_eq_true rfl, Nat.le_of_ble_eq_true rfl⟩ dX8_setHeat_36 (fun r4 M3 => ?_)
      refine G_aload_n (pc := 39) h.1 dX8_setHeat_39 rfl 0 rfl ?_
      refine G_get (pc := 40) (v := .ref (y.2.1 (sI 0 0))) h.1 fl_X8_12 lN141 (eM141 _) rfl dX8_setHeat_40 ?_
      refine G_iload_n (pc := 43) h.1 dX8_setHeat_43 rfl 1 rfl ?_
      refine G_put (pc := 44) h.1 fp_X8_80 (ids_s h7_0 0 (by decide)) (fun m => eS0 h7_0 m) (fun _ => rfl) (fun _ => Nat.le_of_ble_eq_true rfl) rfl rfl dX8_setHeat_44 (fun M5 => ?_)
      refine G_aload_n (pc := 47) h.1 dX8_setHeat_47 rfl 0 rfl ?_
      refine G_callV (pc := 48) (As := []) (rest := []) h.1 h.2.2.1 lk_X8_83 lN141 (eM141 _) rfl rfl (c_X8_countDoomed x.1.2.1 y hy M5) rfl rfl (Nat.le_of_ble_eq_true rfl) ⟨rfl, rfl, Nat.le_of_ble_eq_true rfl, Nat.le_of_ble_eq_true rfl⟩ dX8_setHeat_48 (fun r7 M6 => ?_)
      exact G_ret (pc := 51) h rfl dX8_setHeat_51
    · refine G_bipush (pc := 25) (v := (-5)) h.1 dX8_setHeat_25 (by decide) ?_
      exact G_ret (pc := 27) h rfl dX8_setHeat_27
  · refine G_bipush (pc := 11) (v := (-2)) h.1 dX8_setHeat_11 (by decide) ?_
    exact G_ret (pc := 13) h rfl dX8_setHeat_13
theorem dX8_setMost_0 : decode cX8_setMost 0 = .ok (.iload_n 1, 1) := by decide +kernel
theorem dX8_setMost_1 : decode cX8_setMost 1 = .ok (.bipush 100, 2) := by decide +kernel
theorem dX8_setMost_3 : decode cX8_setMost 3 = .ok (.sipush 3000, 3) := by decide +kernel
theorem dX8_setMost_6 : decode cX8_setMost 6 = .ok (.invokestatic 58, 3) := by decide +kernel
theorem dX8_setMost_9 : decode cX8_setMost 9 = .ok (.ifCond .ne 6, 3) := by decide +kernel
theorem dX8_setMost_12 : decode cX8_setMost 12 = .ok (.bipush (-2), 2) := by decide +kernel
theorem dX8_setMost_14 : decode cX8_setMost 14 = .ok (.ireturn, 1) := by decide +kernel
theorem dX8_setMost_15 : decode cX8_setMost 15 = .ok (.iload_n 1, 1) := by decide +kernel
theorem dX8_setMost_16 : decode cX8_setMost 16 = .ok (.aload_n 0, 1) := by decide +kernel
theorem dX8_setMost_17 : decode cX8_setMost 17 = .ok (.getfield 12, 3) := by decide +kernel
theorem dX8_setMost_20 : decode cX8_setMost 20 = .ok (.getfield 87, 3) := by decide +kernel
theorem dX8_setMost_23 : decode cX8_setMost 23 = .ok (.if_icmp .ne 6, 3) := by decide +kernel
theorem dX8_setMost_26 : decode cX8_setMost 26 = .ok (.bipush (-5), 2) := by decide +kernel
theorem dX8_setMost_28 : decode cX8_setMost 28 = .ok (.ireturn, 1) := by decide +kernel
theorem dX8_setMost_29 : decode cX8_setMost 29 = .ok (.aload_n 0, 1) := by decide +kernel
theorem dX8_setMost_30 : decode cX8_setMost 30 = .ok (.getfield 29, 3) := by decide +kernel
theorem dX8_setMost_33 : decode cX8_setMost 33 = .ok (.aload_n 0, 1) := by decide +kernel
theorem dX8_setMost_34 : decode cX8_setMost 34 = .ok (.getfield 12, 3) := by decide +kernel
theorem dX8_setMost_37 : decode cX8_setMost 37 = .ok (.invokevirtual 72, 3) := by decide +kernel
theorem dX8_setMost_40 : decode cX8_setMost 40 = .ok (.aload_n 0, 1) := by decide +kernel
theorem dX8_setMost_41 : decode cX8_setMost 41 = .ok (.getfield 12, 3) := by decide +kernel
theorem dX8_setMost_44 : decode cX8_setMost 44 = .ok (.iload_n 1, 1) := by decide +kernel
theorem dX8_setMost_45 : decode cX8_setMost 45 = .ok (.putfield 87, 3) := by decide +kernel
theorem dX8_setMost_48 : decode cX8_setMost 48 = .ok (.aload_n 0, 1) := by decide +kernel
theorem dX8_setMost_49 : decode cX8_setMost 49 = .ok (.getfield 12, 3) := by decide +kernel
theorem dX8_setMost_52 : decode cX8_setMost 52 = .ok (.aload_n 0, 1) := by decide +kernel
theorem dX8_setMost_53 : decode cX8_setMost 53 = .ok (.getfield 12, 3) := by decide +kernel
theorem dX8_setMost_56 : decode cX8_setMost 56 = .ok (.getfield 90, 3) := by decide +kernel
theorem dX8_setMost_59 : decode cX8_setMost 59 = .ok (.iload_n 1, 1) := by decide +kernel
theorem dX8_setMost_60 : decode cX8_setMost 60 = .ok (.invokestatic 93, 3) := by decide +kernel
theorem dX8_setMost_63 : decode cX8_setMost 63 = .ok (.putfield 90, 3) := by decide +kernel
theorem dX8_setMost_66 : decode cX8_setMost 66 = .ok (.aload_n 0, 1) := by decide +kernel
theorem dX8_setMost_67 : decode cX8_setMost 67 = .ok (.getfield 12, 3) := by decide +kernel
theorem dX8_setMost_70 : decode cX8_setMost 70 = .ok (.getfield 90, 3) := by decide +kernel
theorem dX8_setMost_73 : decode cX8_setMost 73 = .ok (.ireturn, 1) := by decide +kernel
abbrev rX8_setMost : Room := { frames := 4, cells := 0, slots := 0, locals := 82 }
set_option maxRecDepth 20000 in
theorem c_X8_setMost (l : Launch) (y : Cy) (hy : Inj y) (p1 : Int32) (M : Mem) : CT l y yX8_setMost cX8_setMost 2 (some .int) rX8_setMost [.ref (y.2.1 141), .int p1] M (d_X8_setMost p1 M) := by
  refine CT_of (by decide) hy (Nat.le_of_ble_eq_true rfl) (fun x hxl h => ?_)
  show G x y 0 [(0, .ref (y.2.1 141)), (1, .int p1)] [] M _
  unfold d_X8_setMost
  refine G_iload_n (pc := 0) h.1 dX8_setMost_0 rfl 1 rfl ?_
  refine G_bipush (pc := 1) (v := (100)) h.1 dX8_setMost_1 (by decide) ?_
  refine G_sipush (pc := 3) (v := (3000)) h.1 dX8_setMost_3 (by decide) ?_
  refine G_callS (pc := 6) (As := [.int p1, .int (100 : Int32), .int (3000 : Int32)]) (rest := []) h.1 h.2.2.1 lk_X8_58 (c_X8_within x.1.2.1 y hy p1 (100 : Int32) (3000 : Int32) M) rfl rfl (Nat.le_of_ble_eq_true rfl) ⟨rfl, rfl, Nat.le_of_ble_eq_true rfl, Nat.le_of_ble_eq_true rfl⟩ dX8_setMost_6 (fun r2 M1 => ?_)
  refine G_if_ne (pc := 9) (tgt := 15) h.1 dX8_setMost_9 (by decide) ?_ ?_
  · refine G_iload_n (pc := 15) h.1 dX8_setMost_15 rfl 1 rfl ?_
    refine G_aload_n (pc := 16) h.1 dX8_setMost_16 rfl 0 rfl ?_
    refine G_get (pc := 17) (v := .ref (y.2.1 (sI 0 0))) h.1 fl_X8_12 lN141 (eM141 _) rfl dX8_setMost_17 ?_
    refine G_get (pc := 20) (v := .int (M1 (sI 0 0) 2)) h.1 fl_X8_87 (ids_s h7_0 0 (by decide)) (eS0 h7_0 _) rfl dX8_setMost_20 ?_
    refine G_icmp_ne (pc := 23) (tgt := 29) h.1 dX8_setMost_23 (by decide) ?_ ?_
    · refine G_aload_n (pc := 29) h.1 dX8_setMost_29 rfl 0 rfl ?_
      refine G_get (pc := 30) (v := .ref (y.2.1 134)) h.1 fl_X8_29 lN141 (eM141 _) rfl dX8_setMost_30 ?_
      refine G_aload_n (pc := 33) h.1 dX8_setMost_33 rfl 0 rfl ?_
      refine G_get (pc := 34) (v := .ref (y.2.1 (sI 0 0))) h.1 fl_X8_12 lN141 (eM141 _) rfl dX8_setMost_34 ?_
      refine G_callVv (pc := 37) (As := [.ref (y.2.1 (sI 0 0))]) (rest := []) h.1 h.2.2.1 lk_X8_72 lN134 (eM134 _) rfl rfl (c_X2_push x.1.2.1 y hy 0 h7_0 M1) rfl rfl (Nat.le_of_ble_eq_true rfl) ⟨rfl, rfl, Nat.le_of_ble_eq_true rfl, Nat.le_of_ble_eq_true rfl⟩ dX8_setMost_37 (fun r4 M3 => ?_)
      refine G_aload_n (pc := 40) h.1 dX8_setMost_40 rfl 0 rfl ?_
      refine G_get (pc := 41) (v := .ref (y.2.1 (sI 0 0))) h.1 fl_X8_12 lN141 (eM141 _) rfl dX8_setMost_41 ?_
      refine G_iload_n (pc := 44) h.1 dX8_setMost_44 rfl 1 rfl ?_
      refine G_put (pc := 45) h.1 fp_X8_87 (ids_s h7_0 0 (by decide)) (fun m => eS0 h7_0 m) (fun _ => rfl) (fun _ => Nat.le_of_ble_eq_true rfl) rfl rfl dX8_setMost_45 (fun M5 => ?_)
      refine G_aload_n (pc := 48) h.1 dX8_setMost_48 rfl 0 rfl ?_
      refine G_get (pc := 49) (v := .ref (y.2.1 (sI 0 0))) h.1 fl_X8_12 lN141 (eM141 _) rfl dX8_setMost_49 ?_
      refine G_aload_n (pc := 52) h.1 dX8_setMost_52 rfl 0 rfl ?_
      refine G_get (pc := 53) (v := .ref (y.2.1 (sI 0 0))) h.1 fl_X8_12 lN141 (eM141 _) rfl dX8_setMost_53 ?_
      refine G_get (pc := 56) (v := .int (M5 (sI 0 0) 1)) h.1 fl_X8_90 (ids_s h7_0 0 (by decide)) (eS0 h7_0 _) rfl dX8_setMost_56 ?_
      refine G_iload_n (pc := 59) h.1 dX8_setMost_59 rfl 1 rfl ?_
      refine G_mmin (pc := 60) h.1 h.2.2.1 mm_X8_93 dX8_setMost_60 (Nat.le_of_ble_eq_true rfl) (Nat.le_of_ble_eq_true rfl) ?_
      refine G_put (pc := 63) h.1 fp_X8_90 (ids_s h7_0 0 (by decide)) (fun m => eS0 h7_0 m) (fun _ => rfl) (fun _ => Nat.le_of_ble_eq_true rfl) rfl rfl dX8_setMost_63 (fun M6 => ?_)
      refine G_aload_n (pc := 66) h.1 dX8_setMost_66 rfl 0 rfl ?_
      refine G_get (pc := 67) (v := .ref (y.2.1 (sI 0 0))) h.1 fl_X8_12 lN141 (eM141 _) rfl dX8_setMost_67 ?_
      refine G_get (pc := 70) (v := .int (M6 (sI 0 0) 1)) h.1 fl_X8_90 (ids_s h7_0 0 (by decide)) (eS0 h7_0 _) rfl dX8_setMost_70 ?_
      exact G_ret (pc := 73) h rfl dX8_setMost_73
    · refine G_bipush (pc := 26) (v := (-5)) h.1 dX8_setMost_26 (by decide) ?_
      exact G_ret (pc := 28) h rfl dX8_setMost_28
  · refine G_bipush (pc := 12) (v := (-2)) h.1 dX8_setMost_12 (by decide) ?_
    exact G_ret (pc := 14) h rfl dX8_setMost_14
theorem dX8_fall_0 : decode cX8_fall 0 = .ok (.iload_n 1, 1) := by decide +kernel
theorem dX8_fall_1 : decode cX8_fall 1 = .ok (.iconst 1, 1) := by decide +kernel
theorem dX8_fall_2 : decode cX8_fall 2 = .ok (.sipush 3000, 3) := by decide +kernel
theorem dX8_fall_5 : decode cX8_fall 5 = .ok (.invokestatic 58, 3) := by decide +kernel
theorem dX8_fall_8 : decode cX8_fall 8 = .ok (.ifCond .ne 6, 3) := by decide +kernel
theorem dX8_fall_11 : decode cX8_fall 11 = .ok (.bipush (-2), 2) := by decide +kernel
theorem dX8_fall_13 : decode cX8_fall 13 = .ok (.ireturn, 1) := by decide +kernel
theorem dX8_fall_14 : decode cX8_fall 14 = .ok (.aload_n 0, 1) := by decide +kernel
theorem dX8_fall_15 : decode cX8_fall 15 = .ok (.getfield 12, 3) := by decide +kernel
theorem dX8_fall_18 : decode cX8_fall 18 = .ok (.getfield 90, 3) := by decide +kernel
theorem dX8_fall_21 : decode cX8_fall 21 = .ok (.ifCond .ne 6, 3) := by decide +kernel
theorem dX8_fall_24 : decode cX8_fall 24 = .ok (.bipush (-5), 2) := by decide +kernel
theorem dX8_fall_26 : decode cX8_fall 26 = .ok (.ireturn, 1) := by decide +kernel
theorem dX8_fall_27 : decode cX8_fall 27 = .ok (.aload_n 0, 1) := by decide +kernel
theorem dX8_fall_28 : decode cX8_fall 28 = .ok (.getfield 29, 3) := by decide +kernel
theorem dX8_fall_31 : decode cX8_fall 31 = .ok (.aload_n 0, 1) := by decide +kernel
theorem dX8_fall_32 : decode cX8_fall 32 = .ok (.getfield 12, 3) := by decide +kernel
theorem dX8_fall_35 : decode cX8_fall 35 = .ok (.invokevirtual 72, 3) := by decide +kernel
theorem dX8_fall_38 : decode cX8_fall 38 = .ok (.aload_n 0, 1) := by decide +kernel
theorem dX8_fall_39 : decode cX8_fall 39 = .ok (.getfield 12, 3) := by decide +kernel
theorem dX8_fall_42 : decode cX8_fall 42 = .ok (.iconst 0, 1) := by decide +kernel
theorem dX8_fall_43 : decode cX8_fall 43 = .ok (.aload_n 0, 1) := by decide +kernel
theorem dX8_fall_44 : decode cX8_fall 44 = .ok (.getfield 12, 3) := by decide +kernel
theorem dX8_fall_47 : decode cX8_fall 47 = .ok (.getfield 90, 3) := by decide +kernel
theorem dX8_fall_50 : decode cX8_fall 50 = .ok (.iload_n 1, 1) := by decide +kernel
theorem dX8_fall_51 : decode cX8_fall 51 = .ok (.isub, 1) := by decide +kernel
theorem dX8_fall_52 : decode cX8_fall 52 = .ok (.invokestatic 99, 3) := by decide +kernel
theorem dX8_fall_55 : decode cX8_fall 55 = .ok (.putfield 90, 3) := by decide +kernel
theorem dX8_fall_58 : decode cX8_fall 58 = .ok (.aload_n 0, 1) := by decide +kernel
theorem dX8_fall_59 : decode cX8_fall 59 = .ok (.invokevirtual 83, 3) := by decide +kernel
theorem dX8_fall_62 : decode cX8_fall 62 = .ok (.ireturn, 1) := by decide +kernel
abbrev rX8_fall : Room := { frames := 6, cells := 0, slots := 0, locals := 132 }
set_option maxRecDepth 20000 in
theorem c_X8_fall (l : Launch) (y : Cy) (hy : Inj y) (p1 : Int32) (M : Mem) : CT l y yX8_fall cX8_fall 2 (some .int) rX8_fall [.ref (y.2.1 141), .int p1] M (d_X8_fall p1 M) := by
  refine CT_of (by decide) hy (Nat.le_of_ble_eq_true rfl) (fun x hxl h => ?_)
  show G x y 0 [(0, .ref (y.2.1 141)), (1, .int p1)] [] M _
  unfold d_X8_fall
  refine G_iload_n (pc := 0) h.1 dX8_fall_0 rfl 1 rfl ?_
  refine G_iconst (pc := 1) (v := (1)) h.1 dX8_fall_1 (by decide) ?_
  refine G_sipush (pc := 2) (v := (3000)) h.1 dX8_fall_2 (by decide) ?_
  refine G_callS (pc := 5) (As := [.int p1, .int (1 : Int32), .int (3000 : Int32)]) (rest := []) h.1 h.2.2.1 lk_X8_58 (c_X8_within x.1.2.1 y hy p1 (1 : Int32) (3000 : Int32) M) rfl rfl (Nat.le_of_ble_eq_true rfl) ⟨rfl, rfl, Nat.le_of_ble_eq_true rfl, Nat.le_of_ble_eq_true rfl⟩ dX8_fall_5 (fun r2 M1 => ?_)
  refine G_if_ne (pc := 8) (tgt := 14) h.1 dX8_fall_8 (by decide) ?_ ?_
  · refine G_aload_n (pc := 14) h.1 dX8_fall_14 rfl 0 rfl ?_
    refine G_get (pc := 15) (v := .ref (y.2.1 (sI 0 0))) h.1 fl_X8_12 lN141 (eM141 _) rfl dX8_fall_15 ?_
    refine G_get (pc := 18) (v := .int (M1 (sI 0 0) 1)) h.1 fl_X8_90 (ids_s h7_0 0 (by decide)) (eS0 h7_0 _) rfl dX8_fall_18 ?_
    refine G_if_ne (pc := 21) (tgt := 27) h.1 dX8_fall_21 (by decide) ?_ ?_
    · refine G_aload_n (pc := 27) h.1 dX8_fall_27 rfl 0 rfl ?_
      refine G_get (pc := 28) (v := .ref (y.2.1 134)) h.1 fl_X8_29 lN141 (eM141 _) rfl dX8_fall_28 ?_
      refine G_aload_n (pc := 31) h.1 dX8_fall_31 rfl 0 rfl ?_
      refine G_get (pc := 32) (v := .ref (y.2.1 (sI 0 0))) h.1 fl_X8_12 lN141 (eM141 _) rfl dX8_fall_32 ?_
      refine G_callVv (pc := 35) (As := [.ref (y.2.1 (sI 0 0))]) (rest := []) h.1 h.2.2.1 lk_X8_72 lN134 (eM134 _) rfl rfl (c_X2_push x.1.2.1 y hy 0 h7_0 M1) rfl rfl (Nat.le_of_ble_eq_true rfl) ⟨rfl, rfl, Nat.le_of_ble_eq_true rfl, Nat.le_of_ble_eq_true rfl⟩ dX8_fall_35 (fun r4 M3 => ?_)
      refine G_aload_n (pc := 38) h.1 dX8_fall_38 rfl 0 rfl ?_
      refine G_get (pc := 39) (v := .ref (y.2.1 (sI 0 0))) h.1 fl_X8_12 lN141 (eM141 _) rfl dX8_fall_39 ?_
      refine G_iconst (pc := 42) (v := (0)) h.1 dX8_fall_42 (by decide) ?_
      refine G_aload_n (pc := 43) h.1 dX8_fall_43 rfl 0 rfl ?_
      refine G_get (pc := 44) (v := .ref (y.2.1 (sI 0 0))) h.1 fl_X8_12 lN141 (eM141 _) rfl dX8_fall_44 ?_
      refine G_get (pc := 47) (v := .int (M3 (sI 0 0) 1)) h.1 fl_X8_90 (ids_s h7_0 0 (by decide)) (eS0 h7_0 _) rfl dX8_fall_47 ?_
      refine G_iload_n (pc := 50) h.1 dX8_fall_50 rfl 1 rfl ?_
      refine G_isub (pc := 51) h.1 dX8_fall_51 ?_
      refine G_mmax (pc := 52) h.1 h.2.2.1 mm_X8_99 dX8_fall_52 (Nat.le_of_ble_eq_true rfl) (Nat.le_of_ble_eq_true rfl) ?_
      refine G_put (pc := 55) h.1 fp_X8_90 (ids_s h7_0 0 (by decide)) (fun m => eS0 h7_0 m) (fun _ => rfl) (fun _ => Nat.le_of_ble_eq_true rfl) rfl rfl dX8_fall_55 (fun M5 => ?_)
      refine G_aload_n (pc := 58) h.1 dX8_fall_58 rfl 0 rfl ?_
      refine G_callV (pc := 59) (As := []) (rest := []) h.1 h.2.2.1 lk_X8_83 lN141 (eM141 _) rfl rfl (c_X8_countDoomed x.1.2.1 y hy M5) rfl rfl (Nat.le_of_ble_eq_true rfl) ⟨rfl, rfl, Nat.le_of_ble_eq_true rfl, Nat.le_of_ble_eq_true rfl⟩ dX8_fall_59 (fun r7 M6 => ?_)
      exact G_ret (pc := 62) h rfl dX8_fall_62
    · refine G_bipush (pc := 24) (v := (-5)) h.1 dX8_fall_24 (by decide) ?_
      exact G_ret (pc := 26) h rfl dX8_fall_26
  · refine G_bipush (pc := 11) (v := (-2)) h.1 dX8_fall_11 (by decide) ?_
    exact G_ret (pc := 13) h rfl dX8_fall_13
theorem dX8_isRobot_0 : decode cX8_isRobot 0 = .ok (.iload_n 0, 1) := by decide +kernel
theorem dX8_isRobot_1 : decode cX8_isRobot 1 = .ok (.iconst 0, 1) := by decide +kernel
theorem dX8_isRobot_2 : decode cX8_isRobot 2 = .ok (.iconst 5, 1) := by decide +kernel
theorem dX8_isRobot_3 : decode cX8_isRobot 3 = .ok (.invokestatic 58, 3) := by decide +kernel
theorem dX8_isRobot_6 : decode cX8_isRobot 6 = .ok (.ireturn, 1) := by decide +kernel
abbrev rX8_isRobot : Room := { frames := 1, cells := 0, slots := 0, locals := 22 }
set_option maxRecDepth 20000 in
theorem c_X8_isRobot (l : Launch) (y : Cy) (hy : Inj y) (p0 : Int32) (M : Mem) : CT l y yX8_isRobot cX8_isRobot 1 (some .boolean) rX8_isRobot [.int p0] M (d_X8_isRobot p0 M) := by
  refine CT_of (by decide) hy (Nat.le_of_ble_eq_true rfl) (fun x hxl h => ?_)
  show G x y 0 [(0, .int p0)] [] M _
  unfold d_X8_isRobot
  refine G_iload_n (pc := 0) h.1 dX8_isRobot_0 rfl 0 rfl ?_
  refine G_iconst (pc := 1) (v := (0)) h.1 dX8_isRobot_1 (by decide) ?_
  refine G_iconst (pc := 2) (v := (5)) h.1 dX8_isRobot_2 (by decide) ?_
  refine G_callS (pc := 3) (As := [.int p0, .int (0 : Int32), .int (5 : Int32)]) (rest := []) h.1 h.2.2.1 lk_X8_58 (c_X8_within x.1.2.1 y hy p0 (0 : Int32) (5 : Int32) M) rfl rfl (Nat.le_of_ble_eq_true rfl) ⟨rfl, rfl, Nat.le_of_ble_eq_true rfl, Nat.le_of_ble_eq_true rfl⟩ dX8_isRobot_3 (fun r2 M1 => ?_)
  exact G_retN (pc := 6) h dX8_isRobot_6
theorem dX8_errorOf_0 : decode cX8_errorOf 0 = .ok (.iload_n 0, 1) := by decide +kernel
theorem dX8_errorOf_1 : decode cX8_errorOf 1 = .ok (.lookupswitch 32 #[(0, 27), (1, 29)], 27) := by decide +kernel
theorem dX8_errorOf_28 : decode cX8_errorOf 28 = .ok (.iconst 0, 1) := by decide +kernel
theorem dX8_errorOf_29 : decode cX8_errorOf 29 = .ok (.ireturn, 1) := by decide +kernel
theorem dX8_errorOf_30 : decode cX8_errorOf 30 = .ok (.bipush (-6), 2) := by decide +kernel
theorem dX8_errorOf_32 : decode cX8_errorOf 32 = .ok (.ireturn, 1) := by decide +kernel
theorem dX8_errorOf_33 : decode cX8_errorOf 33 = .ok (.bipush (-7), 2) := by decide +kernel
theorem dX8_errorOf_35 : decode cX8_errorOf 35 = .ok (.ireturn, 1) := by decide +kernel
abbrev rX8_errorOf : Room := { frames := 0, cells := 0, slots := 0, locals := 0 }
set_option maxRecDepth 20000 in
theorem c_X8_errorOf (l : Launch) (y : Cy) (hy : Inj y) (p0 : Int32) (M : Mem) : CT l y yX8_errorOf cX8_errorOf 1 (some .int) rX8_errorOf [.int p0] M (d_X8_errorOf p0 M) := by
  refine CT_of (by decide) hy (Nat.le_of_ble_eq_true rfl) (fun x hxl h => ?_)
  show G x y 0 [(0, .int p0)] [] M _
  unfold d_X8_errorOf
  refine G_iload_n (pc := 0) h.1 dX8_errorOf_0 rfl 0 rfl ?_
  refine G_ite (fun c1 => ?_) (fun c1 => ?_)
  · refine G_lkIn (z := 0) (off := 27) (tgt := 28) h.1 dX8_errorOf_1 c1 (by decide) (by decide) (by decide) (by decide) ?_
    refine G_iconst (pc := 28) (v := (0)) h.1 dX8_errorOf_28 (by decide) ?_
    exact G_ret (pc := 29) h rfl dX8_errorOf_29
  refine G_ite (fun c2 => ?_) (fun c2 => ?_)
  · refine G_lkIn (z := 1) (off := 29) (tgt := 30) h.1 dX8_errorOf_1 c2 (by decide) (by decide) (by decide) (by decide) ?_
    refine G_bipush (pc := 30) (v := (-6)) h.1 dX8_errorOf_30 (by decide) ?_
    exact G_ret (pc := 32) h rfl dX8_errorOf_32
  refine G_lkOut (tgt := 33) h.1 dX8_errorOf_1 (by decide) (by have z0 := g_ne c1 0 (by decide); have z1 := g_ne c2 1 (by decide); simp [Op.lookupswitch.offset, Ne.symm z0, Ne.symm z1]) (by decide) ?_
  refine G_bipush (pc := 33) (v := (-7)) h.1 dX8_errorOf_33 (by decide) ?_
  exact G_ret (pc := 35) h rfl dX8_errorOf_35
theorem dX8_errorOfBooking_0 : decode cX8_errorOfBooking 0 = .ok (.iload_n 1, 1) := by decide +kernel
theorem dX8_errorOfBooking_1 : decode cX8_errorOfBooking 1 = .ok (.invokestatic 154, 3) := by decide +kernel
theorem dX8_errorOfBooking_4 : decode cX8_errorOfBooking 4 = .ok (.ifCond .eq 17, 3) := by decide +kernel
theorem dX8_errorOfBooking_7 : decode cX8_errorOfBooking 7 = .ok (.aload_n 0, 1) := by decide +kernel
theorem dX8_errorOfBooking_8 : decode cX8_errorOfBooking 8 = .ok (.getfield 12, 3) := by decide +kernel
theorem dX8_errorOfBooking_11 : decode cX8_errorOfBooking 11 = .ok (.getfield 62, 3) := by decide +kernel
theorem dX8_errorOfBooking_14 : decode cX8_errorOfBooking 14 = .ok (.iload_n 2, 1) := by decide +kernel
theorem dX8_errorOfBooking_15 : decode cX8_errorOfBooking 15 = .ok (.invokevirtual 157, 3) := by decide +kernel
theorem dX8_errorOfBooking_18 : decode cX8_errorOfBooking 18 = .ok (.ifCond .ne 5, 3) := by decide +kernel
theorem dX8_errorOfBooking_21 : decode cX8_errorOfBooking 21 = .ok (.iconst (-1), 1) := by decide +kernel
theorem dX8_errorOfBooking_22 : decode cX8_errorOfBooking 22 = .ok (.ireturn, 1) := by decide +kernel
theorem dX8_errorOfBooking_23 : decode cX8_errorOfBooking 23 = .ok (.aload_n 0, 1) := by decide +kernel
theorem dX8_errorOfBooking_24 : decode cX8_errorOfBooking 24 = .ok (.getfield 12, 3) := by decide +kernel
theorem dX8_errorOfBooking_27 : decode cX8_errorOfBooking 27 = .ok (.iload_n 3, 1) := by decide +kernel
theorem dX8_errorOfBooking_28 : decode cX8_errorOfBooking 28 = .ok (.invokevirtual 128, 3) := by decide +kernel
theorem dX8_errorOfBooking_31 : decode cX8_errorOfBooking 31 = .ok (.ifCond .ne 6, 3) := by decide +kernel
theorem dX8_errorOfBooking_34 : decode cX8_errorOfBooking 34 = .ok (.bipush (-2), 2) := by decide +kernel
theorem dX8_errorOfBooking_36 : decode cX8_errorOfBooking 36 = .ok (.ireturn, 1) := by decide +kernel
theorem dX8_errorOfBooking_37 : decode cX8_errorOfBooking 37 = .ok (.aload_n 0, 1) := by decide +kernel
theorem dX8_errorOfBooking_38 : decode cX8_errorOfBooking 38 = .ok (.getfield 12, 3) := by decide +kernel
theorem dX8_errorOfBooking_41 : decode cX8_errorOfBooking 41 = .ok (.getfield 106, 3) := by decide +kernel
theorem dX8_errorOfBooking_44 : decode cX8_errorOfBooking 44 = .ok (.getfield 158, 3) := by decide +kernel
theorem dX8_errorOfBooking_47 : decode cX8_errorOfBooking 47 = .ok (.bipush 60, 2) := by decide +kernel
theorem dX8_errorOfBooking_49 : decode cX8_errorOfBooking 49 = .ok (.if_icmp .lt 6, 3) := by decide +kernel
theorem dX8_errorOfBooking_52 : decode cX8_errorOfBooking 52 = .ok (.bipush (-3), 2) := by decide +kernel
theorem dX8_errorOfBooking_54 : decode cX8_errorOfBooking 54 = .ok (.ireturn, 1) := by decide +kernel
theorem dX8_errorOfBooking_55 : decode cX8_errorOfBooking 55 = .ok (.aload_n 0, 1) := by decide +kernel
theorem dX8_errorOfBooking_56 : decode cX8_errorOfBooking 56 = .ok (.getfield 50, 3) := by decide +kernel
theorem dX8_errorOfBooking_59 : decode cX8_errorOfBooking 59 = .ok (.aload_n 0, 1) := by decide +kernel
theorem dX8_errorOfBooking_60 : decode cX8_errorOfBooking 60 = .ok (.getfield 12, 3) := by decide +kernel
theorem dX8_errorOfBooking_63 : decode cX8_errorOfBooking 63 = .ok (.aload_n 0, 1) := by decide +kernel
theorem dX8_errorOfBooking_64 : decode cX8_errorOfBooking 64 = .ok (.getfield 12, 3) := by decide +kernel
theorem dX8_errorOfBooking_67 : decode cX8_errorOfBooking 67 = .ok (.getfield 106, 3) := by decide +kernel
theorem dX8_errorOfBooking_70 : decode cX8_errorOfBooking 70 = .ok (.getfield 158, 3) := by decide +kernel
theorem dX8_errorOfBooking_73 : decode cX8_errorOfBooking 73 = .ok (.iload_n 1, 1) := by decide +kernel
theorem dX8_errorOfBooking_74 : decode cX8_errorOfBooking 74 = .ok (.iload_n 2, 1) := by decide +kernel
theorem dX8_errorOfBooking_75 : decode cX8_errorOfBooking 75 = .ok (.iload_n 3, 1) := by decide +kernel
theorem dX8_errorOfBooking_76 : decode cX8_errorOfBooking 76 = .ok (.invokevirtual 137, 3) := by decide +kernel
theorem dX8_errorOfBooking_79 : decode cX8_errorOfBooking 79 = .ok (.invokestatic 141, 3) := by decide +kernel
theorem dX8_errorOfBooking_82 : decode cX8_errorOfBooking 82 = .ok (.ireturn, 1) := by decide +kernel
abbrev rX8_errorOfBooking : Room := { frames := 5, cells := 0, slots := 0, locals := 122 }
set_option maxRecDepth 20000 in
theorem c_X8_errorOfBooking (l : Launch) (y : Cy) (hy : Inj y) (p1 : Int32) (p2 : Int32) (p3 : Int32) (M : Mem) : CT l y yX8_errorOfBooking cX8_errorOfBooking 4 (some .int) rX8_errorOfBooking [.ref (y.2.1 141), .int p1, .int p2, .int p3] M (d_X8_errorOfBooking p1 p2 p3 M) := by
  refine CT_of (by decide) hy (Nat.le_of_ble_eq_true rfl) (fun x hxl h => ?_)
  show G x y 0 [(0, .ref (y.2.1 141)), (1, .int p1), (2, .int p2), (3, .int p3)] [] M _
  unfold d_X8_errorOfBooking
  refine G_iload_n (pc := 0) h.1 dX8_errorOfBooking_0 rfl 1 rfl ?_
  refine G_callS (pc := 1) (As := [.int p1]) (rest := []) h.1 h.2.2.1 lk_X8_154 (c_X8_isRobot x.1.2.1 y hy p1 M) rfl rfl (Nat.le_of_ble_eq_true rfl) ⟨rfl, rfl, Nat.le_of_ble_eq_true rfl, Nat.le_of_ble_eq_true rfl⟩ dX8_errorOfBooking_1 (fun r2 M1 => ?_)
  refine G_if_eq (pc := 4) (tgt := 21) h.1 dX8_errorOfBooking_4 (by decide) ?_ ?_
  · refine G_iconst (pc := 21) (v := (-1)) h.1 dX8_errorOfBooking_21 (by decide) ?_
    exact G_ret (pc := 22) h rfl dX8_errorOfBooking_22
  · refine G_aload_n (pc := 7) h.1 dX8_errorOfBooking_7 rfl 0 rfl ?_
    refine G_get (pc := 8) (v := .ref (y.2.1 (sI 0 0))) h.1 fl_X8_12 lN141 (eM141 _) rfl dX8_errorOfBooking_8 ?_
    refine G_get (pc := 11) (v := .ref (y.2.1 (sI 0 1))) h.1 fl_X8_62 (ids_s h7_0 0 (by decide)) (eS0 h7_0 _) rfl dX8_errorOfBooking_11 ?_
    refine G_iload_n (pc := 14) h.1 dX8_errorOfBooking_14 rfl 2 rfl ?_
    refine G_callV (pc := 15) (As := [.int p2]) (rest := []) h.1 h.2.2.1 lk_X8_157 (ids_s h7_0 1 (by decide)) (eS1 h7_0 _) rfl rfl (c_X4_has x.1.2.1 y hy 0 h7_0 p2 M1) rfl rfl (Nat.le_of_ble_eq_true rfl) ⟨rfl, rfl, Nat.le_of_ble_eq_true rfl, Nat.le_of_ble_eq_true rfl⟩ dX8_errorOfBooking_15 (fun r4 M3 => ?_)
    refine G_if_ne (pc := 18) (tgt := 23) h.1 dX8_errorOfBooking_18 (by decide) ?_ ?_
    · refine G_aload_n (pc := 23) h.1 dX8_errorOfBooking_23 rfl 0 rfl ?_
      refine G_get (pc := 24) (v := .ref (y.2.1 (sI 0 0))) h.1 fl_X8_12 lN141 (eM141 _) rfl dX8_errorOfBooking_24 ?_
      refine G_iload_n (pc := 27) h.1 dX8_errorOfBooking_27 rfl 3 rfl ?_
      refine G_callV (pc := 28) (As := [.int p3]) (rest := []) h.1 h.2.2.1 lk_X8_128 (ids_s h7_0 0 (by decide)) (eS0 h7_0 _) rfl rfl (c_X5_canStart x.1.2.1 y hy 0 h7_0 p3 M3) rfl rfl (Nat.le_of_ble_eq_true rfl) ⟨rfl, rfl, Nat.le_of_ble_eq_true rfl, Nat.le_of_ble_eq_true rfl⟩ dX8_errorOfBooking_28 (fun r6 M5 => ?_)
      refine G_if_ne (pc := 31) (tgt := 37) h.1 dX8_errorOfBooking_31 (by decide) ?_ ?_
      · refine G_aload_n (pc := 37) h.1 dX8_errorOfBooking_37 rfl 0 rfl ?_
        refine G_get (pc := 38) (v := .ref (y.2.1 (sI 0 0))) h.1 fl_X8_12 lN141 (eM141 _) rfl dX8_errorOfBooking_38 ?_
        refine G_get (pc := 41) (v := .ref (y.2.1 (sI 0 6))) h.1 fl_X8_106 (ids_s h7_0 0 (by decide)) (eS0 h7_0 _) rfl dX8_errorOfBooking_41 ?_
        refine G_get (pc := 44) (v := .int (M5 (sI 0 6) 0)) h.1 fl_X8_158 (ids_s h7_0 6 (by decide)) (eS6 h7_0 _) rfl dX8_errorOfBooking_44 ?_
        refine G_bipush (pc := 47) (v := (60)) h.1 dX8_errorOfBooking_47 (by decide) ?_
        refine G_icmp_lt (pc := 49) (tgt := 55) h.1 dX8_errorOfBooking_49 (by decide) ?_ ?_
        · refine G_aload_n (pc := 55) h.1 dX8_errorOfBooking_55 rfl 0 rfl ?_
          refine G_get (pc := 56) (v := .ref (y.2.1 132)) h.1 fl_X8_50 lN141 (eM141 _) rfl dX8_errorOfBooking_56 ?_
          refine G_aload_n (pc := 59) h.1 dX8_errorOfBooking_59 rfl 0 rfl ?_
          refine G_get (pc := 60) (v := .ref (y.2.1 (sI 0 0))) h.1 fl_X8_12 lN141 (eM141 _) rfl dX8_errorOfBooking_60 ?_
          refine G_aload_n (pc := 63) h.1 dX8_errorOfBooking_63 rfl 0 rfl ?_
          refine G_get (pc := 64) (v := .ref (y.2.1 (sI 0 0))) h.1 fl_X8_12 lN141 (eM141 _) rfl dX8_errorOfBooking_64 ?_
          refine G_get (pc := 67) (v := .ref (y.2.1 (sI 0 6))) h.1 fl_X8_106 (ids_s h7_0 0 (by decide)) (eS0 h7_0 _) rfl dX8_errorOfBooking_67 ?_
          refine G_get (pc := 70) (v := .int (M5 (sI 0 6) 0)) h.1 fl_X8_158 (ids_s h7_0 6 (by decide)) (eS6 h7_0 _) rfl dX8_errorOfBooking_70 ?_
          refine G_iload_n (pc := 73) h.1 dX8_errorOfBooking_73 rfl 1 rfl ?_
          refine G_iload_n (pc := 74) h.1 dX8_errorOfBooking_74 rfl 2 rfl ?_
          refine G_iload_n (pc := 75) h.1 dX8_errorOfBooking_75 rfl 3 rfl ?_
          refine G_callV (pc := 76) (As := [.ref (y.2.1 (sI 0 0)), .int (M5 (sI 0 6) 0), .int p1, .int p2, .int p3]) (rest := []) h.1 h.2.2.1 lk_X8_137 lN132 (eM132 _) rfl rfl (c_X3_reasonAgainst x.1.2.1 y hy 0 h7_0 (M5 (sI 0 6) 0) p1 p2 p3 M5) rfl rfl (Nat.le_of_ble_eq_true rfl) ⟨rfl, rfl, Nat.le_of_ble_eq_true rfl, Nat.le_of_ble_eq_true rfl⟩ dX8_errorOfBooking_76 (fun r8 M7 => ?_)
          refine G_callS (pc := 79) (As := [.int r8]) (rest := []) h.1 h.2.2.1 lk_X8_141 (c_X8_errorOf x.1.2.1 y hy r8 M7) rfl rfl (Nat.le_of_ble_eq_true rfl) ⟨rfl, rfl, Nat.le_of_ble_eq_true rfl, Nat.le_of_ble_eq_true rfl⟩ dX8_errorOfBooking_79 (fun r10 M9 => ?_)
          exact G_ret (pc := 82) h rfl dX8_errorOfBooking_82
        · refine G_bipush (pc := 52) (v := (-3)) h.1 dX8_errorOfBooking_52 (by decide) ?_
          exact G_ret (pc := 54) h rfl dX8_errorOfBooking_54
      · refine G_bipush (pc := 34) (v := (-2)) h.1 dX8_errorOfBooking_34 (by decide) ?_
        exact G_ret (pc := 36) h rfl dX8_errorOfBooking_36
    · refine G_iconst (pc := 21) (v := (-1)) h.1 dX8_errorOfBooking_21 (by decide) ?_
      exact G_ret (pc := 22) h rfl dX8_errorOfBooking_22
theorem dX8_book_0 : decode cX8_book 0 = .ok (.aload_n 0, 1) := by decide +kernel
theorem dX8_book_1 : decode cX8_book 1 = .ok (.iload_n 1, 1) := by decide +kernel
theorem dX8_book_2 : decode cX8_book 2 = .ok (.iload_n 2, 1) := by decide +kernel
theorem dX8_book_3 : decode cX8_book 3 = .ok (.iload_n 3, 1) := by decide +kernel
theorem dX8_book_4 : decode cX8_book 4 = .ok (.invokevirtual 102, 3) := by decide +kernel
theorem dX8_book_7 : decode cX8_book 7 = .ok (.istore 4, 2) := by decide +kernel
theorem dX8_book_9 : decode cX8_book 9 = .ok (.iload 4, 2) := by decide +kernel
theorem dX8_book_11 : decode cX8_book 11 = .ok (.ifCond .eq 6, 3) := by decide +kernel
theorem dX8_book_14 : decode cX8_book 14 = .ok (.iload 4, 2) := by decide +kernel
theorem dX8_book_16 : decode cX8_book 16 = .ok (.ireturn, 1) := by decide +kernel
theorem dX8_book_17 : decode cX8_book 17 = .ok (.aload_n 0, 1) := by decide +kernel
theorem dX8_book_18 : decode cX8_book 18 = .ok (.getfield 29, 3) := by decide +kernel
theorem dX8_book_21 : decode cX8_book 21 = .ok (.aload_n 0, 1) := by decide +kernel
theorem dX8_book_22 : decode cX8_book 22 = .ok (.getfield 12, 3) := by decide +kernel
theorem dX8_book_25 : decode cX8_book 25 = .ok (.invokevirtual 72, 3) := by decide +kernel
theorem dX8_book_28 : decode cX8_book 28 = .ok (.aload_n 0, 1) := by decide +kernel
theorem dX8_book_29 : decode cX8_book 29 = .ok (.getfield 12, 3) := by decide +kernel
theorem dX8_book_32 : decode cX8_book 32 = .ok (.getfield 106, 3) := by decide +kernel
theorem dX8_book_35 : decode cX8_book 35 = .ok (.iload_n 1, 1) := by decide +kernel
theorem dX8_book_36 : decode cX8_book 36 = .ok (.iload_n 2, 1) := by decide +kernel
theorem dX8_book_37 : decode cX8_book 37 = .ok (.iload_n 3, 1) := by decide +kernel
theorem dX8_book_38 : decode cX8_book 38 = .ok (.invokevirtual 110, 3) := by decide +kernel
theorem dX8_book_41 : decode cX8_book 41 = .ok (.ireturn, 1) := by decide +kernel
abbrev rX8_book : Room := { frames := 6, cells := 0, slots := 0, locals := 145 }
set_option maxRecDepth 20000 in
theorem c_X8_book (l : Launch) (y : Cy) (hy : Inj y) (p1 : Int32) (p2 : Int32) (p3 : Int32) (M : Mem) : CT l y yX8_book cX8_book 5 (some .int) rX8_book [.ref (y.2.1 141), .int p1, .int p2, .int p3] M (d_X8_book p1 p2 p3 M) := by
  refine CT_of (by decide) hy (Nat.le_of_ble_eq_true rfl) (fun x hxl h => ?_)
  show G x y 0 [(0, .ref (y.2.1 141)), (1, .int p1), (2, .int p2), (3, .int p3)] [] M _
  unfold d_X8_book
  refine G_aload_n (pc := 0) h.1 dX8_book_0 rfl 0 rfl ?_
  refine G_iload_n (pc := 1) h.1 dX8_book_1 rfl 1 rfl ?_
  refine G_iload_n (pc := 2) h.1 dX8_book_2 rfl 2 rfl ?_
  refine G_iload_n (pc := 3) h.1 dX8_book_3 rfl 3 rfl ?_
  refine G_callV (pc := 4) (As := [.int p1, .int p2, .int p3]) (rest := []) h.1 h.2.2.1 lk_X8_102 lN141 (eM141 _) rfl rfl (c_X8_errorOfBooking x.1.2.1 y hy p1 p2 p3 M) rfl rfl (Nat.le_of_ble_eq_true rfl) ⟨rfl, rfl, Nat.le_of_ble_eq_true rfl, Nat.le_of_ble_eq_true rfl⟩ dX8_book_4 (fun r2 M1 => ?_)
  refine G_istore (pc := 7) h.1 h.2.1 [(4, .int r2), (0, .ref (y.2.1 141)), (1, .int p1), (2, .int p2), (3, .int p3)] dX8_book_7 (by decide) rfl ?_
  refine G_iload (pc := 9) h.1 dX8_book_9 0 rfl ?_
  refine G_if_eq (pc := 11) (tgt := 17) h.1 dX8_book_11 (by decide) ?_ ?_
  · refine G_aload_n (pc := 17) h.1 dX8_book_17 rfl 1 rfl ?_
    refine G_get (pc := 18) (v := .ref (y.2.1 134)) h.1 fl_X8_29 lN141 (eM141 _) rfl dX8_book_18 ?_
    refine G_aload_n (pc := 21) h.1 dX8_book_21 rfl 1 rfl ?_
    refine G_get (pc := 22) (v := .ref (y.2.1 (sI 0 0))) h.1 fl_X8_12 lN141 (eM141 _) rfl dX8_book_22 ?_
    refine G_callVv (pc := 25) (As := [.ref (y.2.1 (sI 0 0))]) (rest := []) h.1 h.2.2.1 lk_X8_72 lN134 (eM134 _) rfl rfl (c_X2_push x.1.2.1 y hy 0 h7_0 M1) rfl rfl (Nat.le_of_ble_eq_true rfl) ⟨rfl, rfl, Nat.le_of_ble_eq_true rfl, Nat.le_of_ble_eq_true rfl⟩ dX8_book_25 (fun r4 M3 => ?_)
    refine G_aload_n (pc := 28) h.1 dX8_book_28 rfl 1 rfl ?_
    refine G_get (pc := 29) (v := .ref (y.2.1 (sI 0 0))) h.1 fl_X8_12 lN141 (eM141 _) rfl dX8_book_29 ?_
    refine G_get (pc := 32) (v := .ref (y.2.1 (sI 0 6))) h.1 fl_X8_106 (ids_s h7_0 0 (by decide)) (eS0 h7_0 _) rfl dX8_book_32 ?_
    refine G_iload_n (pc := 35) h.1 dX8_book_35 rfl 2 rfl ?_
    refine G_iload_n (pc := 36) h.1 dX8_book_36 rfl 3 rfl ?_
    refine G_iload_n (pc := 37) h.1 dX8_book_37 rfl 4 rfl ?_
    refine G_callV (pc := 38) (As := [.int p1, .int p2, .int p3]) (rest := []) h.1 h.2.2.1 lk_X8_110 (ids_s h7_0 6 (by decide)) (eS6 h7_0 _) rfl rfl (c_X0_append x.1.2.1 y hy 0 h7_0 p1 p2 p3 M3) rfl rfl (Nat.le_of_ble_eq_true rfl) ⟨rfl, rfl, Nat.le_of_ble_eq_true rfl, Nat.le_of_ble_eq_true rfl⟩ dX8_book_38 (fun r6 M5 => ?_)
    exact G_ret (pc := 41) h rfl dX8_book_41
  · refine G_iload (pc := 14) h.1 dX8_book_14 0 rfl ?_
    exact G_ret (pc := 16) h rfl dX8_book_16
theorem dX8_tryWishes_0 : decode cX8_tryWishes 0 = .ok (.aload_n 0, 1) := by decide +kernel
theorem dX8_tryWishes_1 : decode cX8_tryWishes 1 = .ok (.getfield 12, 3) := by decide +kernel
theorem dX8_tryWishes_4 : decode cX8_tryWishes 4 = .ok (.getfield 166, 3) := by decide +kernel
theorem dX8_tryWishes_7 : decode cX8_tryWishes 7 = .ok (.astore_n 1, 1) := by decide +kernel
theorem dX8_tryWishes_8 : decode cX8_tryWishes 8 = .ok (.aload_n 1, 1) := by decide +kernel
theorem dX8_tryWishes_9 : decode cX8_tryWishes 9 = .ok (.getfield 170, 3) := by decide +kernel
theorem dX8_tryWishes_12 : decode cX8_tryWishes 12 = .ok (.istore_n 2, 1) := by decide +kernel
theorem dX8_tryWishes_13 : decode cX8_tryWishes 13 = .ok (.iconst 0, 1) := by decide +kernel
theorem dX8_tryWishes_14 : decode cX8_tryWishes 14 = .ok (.istore_n 3, 1) := by decide +kernel
theorem dX8_tryWishes_15 : decode cX8_tryWishes 15 = .ok (.iconst 0, 1) := by decide +kernel
theorem dX8_tryWishes_16 : decode cX8_tryWishes 16 = .ok (.istore 4, 2) := by decide +kernel
theorem dX8_tryWishes_18 : decode cX8_tryWishes 18 = .ok (.iload 4, 2) := by decide +kernel
theorem dX8_tryWishes_20 : decode cX8_tryWishes 20 = .ok (.iload_n 2, 1) := by decide +kernel
theorem dX8_tryWishes_21 : decode cX8_tryWishes 21 = .ok (.if_icmp .ge 142, 3) := by decide +kernel
theorem dX8_tryWishes_24 : decode cX8_tryWishes 24 = .ok (.aload_n 1, 1) := by decide +kernel
theorem dX8_tryWishes_25 : decode cX8_tryWishes 25 = .ok (.iload_n 3, 1) := by decide +kernel
theorem dX8_tryWishes_26 : decode cX8_tryWishes 26 = .ok (.invokevirtual 174, 3) := by decide +kernel
theorem dX8_tryWishes_29 : decode cX8_tryWishes 29 = .ok (.ifCond .eq 134, 3) := by decide +kernel
theorem dX8_tryWishes_32 : decode cX8_tryWishes 32 = .ok (.aload_n 1, 1) := by decide +kernel
theorem dX8_tryWishes_33 : decode cX8_tryWishes 33 = .ok (.getfield 252, 3) := by decide +kernel
theorem dX8_tryWishes_36 : decode cX8_tryWishes 36 = .ok (.iload_n 3, 1) := by decide +kernel
theorem dX8_tryWishes_37 : decode cX8_tryWishes 37 = .ok (.iaload, 1) := by decide +kernel
theorem dX8_tryWishes_38 : decode cX8_tryWishes 38 = .ok (.istore 5, 2) := by decide +kernel
theorem dX8_tryWishes_40 : decode cX8_tryWishes 40 = .ok (.aload_n 1, 1) := by decide +kernel
theorem dX8_tryWishes_41 : decode cX8_tryWishes 41 = .ok (.getfield 175, 3) := by decide +kernel
theorem dX8_tryWishes_44 : decode cX8_tryWishes 44 = .ok (.iload_n 3, 1) := by decide +kernel
theorem dX8_tryWishes_45 : decode cX8_tryWishes 45 = .ok (.iaload, 1) := by decide +kernel
theorem dX8_tryWishes_46 : decode cX8_tryWishes 46 = .ok (.istore 6, 2) := by decide +kernel
theorem dX8_tryWishes_48 : decode cX8_tryWishes 48 = .ok (.aload_n 1, 1) := by decide +kernel
theorem dX8_tryWishes_49 : decode cX8_tryWishes 49 = .ok (.getfield 253, 3) := by decide +kernel
theorem dX8_tryWishes_52 : decode cX8_tryWishes 52 = .ok (.iload_n 3, 1) := by decide +kernel
theorem dX8_tryWishes_53 : decode cX8_tryWishes 53 = .ok (.iaload, 1) := by decide +kernel
theorem dX8_tryWishes_54 : decode cX8_tryWishes 54 = .ok (.istore 7, 2) := by decide +kernel
theorem dX8_tryWishes_56 : decode cX8_tryWishes 56 = .ok (.aload_n 0, 1) := by decide +kernel
theorem dX8_tryWishes_57 : decode cX8_tryWishes 57 = .ok (.getfield 12, 3) := by decide +kernel
theorem dX8_tryWishes_60 : decode cX8_tryWishes 60 = .ok (.getfield 106, 3) := by decide +kernel
theorem dX8_tryWishes_63 : decode cX8_tryWishes 63 = .ok (.getfield 158, 3) := by decide +kernel
theorem dX8_tryWishes_66 : decode cX8_tryWishes 66 = .ok (.bipush 60, 2) := by decide +kernel
theorem dX8_tryWishes_68 : decode cX8_tryWishes 68 = .ok (.if_icmp .ge 7, 3) := by decide +kernel
theorem dX8_tryWishes_71 : decode cX8_tryWishes 71 = .ok (.iconst 1, 1) := by decide +kernel
theorem dX8_tryWishes_72 : decode cX8_tryWishes 72 = .ok (.goto 4, 3) := by decide +kernel
theorem dX8_tryWishes_75 : decode cX8_tryWishes 75 = .ok (.iconst 0, 1) := by decide +kernel
theorem dX8_tryWishes_76 : decode cX8_tryWishes 76 = .ok (.istore 8, 2) := by decide +kernel
theorem dX8_tryWishes_78 : decode cX8_tryWishes 78 = .ok (.iload 8, 2) := by decide +kernel
theorem dX8_tryWishes_80 : decode cX8_tryWishes 80 = .ok (.ifCond .eq 38, 3) := by decide +kernel
theorem dX8_tryWishes_83 : decode cX8_tryWishes 83 = .ok (.aload_n 0, 1) := by decide +kernel
theorem dX8_tryWishes_84 : decode cX8_tryWishes 84 = .ok (.getfield 50, 3) := by decide +kernel
theorem dX8_tryWishes_87 : decode cX8_tryWishes 87 = .ok (.aload_n 0, 1) := by decide +kernel
theorem dX8_tryWishes_88 : decode cX8_tryWishes 88 = .ok (.getfield 12, 3) := by decide +kernel
theorem dX8_tryWishes_91 : decode cX8_tryWishes 91 = .ok (.aload_n 0, 1) := by decide +kernel
theorem dX8_tryWishes_92 : decode cX8_tryWishes 92 = .ok (.getfield 12, 3) := by decide +kernel
theorem dX8_tryWishes_95 : decode cX8_tryWishes 95 = .ok (.getfield 106, 3) := by decide +kernel
theorem dX8_tryWishes_98 : decode cX8_tryWishes 98 = .ok (.getfield 158, 3) := by decide +kernel
theorem dX8_tryWishes_101 : decode cX8_tryWishes 101 = .ok (.iload 5, 2) := by decide +kernel
theorem dX8_tryWishes_103 : decode cX8_tryWishes 103 = .ok (.iload 6, 2) := by decide +kernel
theorem dX8_tryWishes_105 : decode cX8_tryWishes 105 = .ok (.iload 7, 2) := by decide +kernel
theorem dX8_tryWishes_107 : decode cX8_tryWishes 107 = .ok (.iload 7, 2) := by decide +kernel
theorem dX8_tryWishes_109 : decode cX8_tryWishes 109 = .ok (.bipush 20, 2) := by decide +kernel
theorem dX8_tryWishes_111 : decode cX8_tryWishes 111 = .ok (.iadd, 1) := by decide +kernel
theorem dX8_tryWishes_112 : decode cX8_tryWishes 112 = .ok (.invokevirtual 159, 3) := by decide +kernel
theorem dX8_tryWishes_115 : decode cX8_tryWishes 115 = .ok (.goto 5, 3) := by decide +kernel
theorem dX8_tryWishes_118 : decode cX8_tryWishes 118 = .ok (.bipush (-5), 2) := by decide +kernel
theorem dX8_tryWishes_120 : decode cX8_tryWishes 120 = .ok (.istore 9, 2) := by decide +kernel
theorem dX8_tryWishes_122 : decode cX8_tryWishes 122 = .ok (.iload 9, 2) := by decide +kernel
theorem dX8_tryWishes_124 : decode cX8_tryWishes 124 = .ok (.bipush (-5), 2) := by decide +kernel
theorem dX8_tryWishes_126 : decode cX8_tryWishes 126 = .ok (.if_icmp .ne 9, 3) := by decide +kernel
theorem dX8_tryWishes_129 : decode cX8_tryWishes 129 = .ok (.iinc 3 1, 3) := by decide +kernel
theorem dX8_tryWishes_132 : decode cX8_tryWishes 132 = .ok (.goto 25, 3) := by decide +kernel
theorem dX8_tryWishes_135 : decode cX8_tryWishes 135 = .ok (.aload_n 1, 1) := by decide +kernel
theorem dX8_tryWishes_136 : decode cX8_tryWishes 136 = .ok (.iload_n 3, 1) := by decide +kernel
theorem dX8_tryWishes_137 : decode cX8_tryWishes 137 = .ok (.invokevirtual 176, 3) := by decide +kernel
theorem dX8_tryWishes_140 : decode cX8_tryWishes 140 = .ok (.aload_n 0, 1) := by decide +kernel
theorem dX8_tryWishes_141 : decode cX8_tryWishes 141 = .ok (.getfield 12, 3) := by decide +kernel
theorem dX8_tryWishes_144 : decode cX8_tryWishes 144 = .ok (.getfield 106, 3) := by decide +kernel
theorem dX8_tryWishes_147 : decode cX8_tryWishes 147 = .ok (.iload 5, 2) := by decide +kernel
theorem dX8_tryWishes_149 : decode cX8_tryWishes 149 = .ok (.iload 6, 2) := by decide +kernel
theorem dX8_tryWishes_151 : decode cX8_tryWishes 151 = .ok (.iload 9, 2) := by decide +kernel
theorem dX8_tryWishes_153 : decode cX8_tryWishes 153 = .ok (.invokevirtual 110, 3) := by decide +kernel
theorem dX8_tryWishes_156 : decode cX8_tryWishes 156 = .ok (.pop, 1) := by decide +kernel
theorem dX8_tryWishes_157 : decode cX8_tryWishes 157 = .ok (.iinc 4 1, 3) := by decide +kernel
theorem dX8_tryWishes_160 : decode cX8_tryWishes 160 = .ok (.goto (-142), 3) := by decide +kernel
theorem dX8_tryWishes_163 : decode cX8_tryWishes 163 = .ok (.iload_n 2, 1) := by decide +kernel
theorem dX8_tryWishes_164 : decode cX8_tryWishes 164 = .ok (.aload_n 1, 1) := by decide +kernel
theorem dX8_tryWishes_165 : decode cX8_tryWishes 165 = .ok (.getfield 170, 3) := by decide +kernel
theorem dX8_tryWishes_168 : decode cX8_tryWishes 168 = .ok (.isub, 1) := by decide +kernel
theorem dX8_tryWishes_169 : decode cX8_tryWishes 169 = .ok (.istore 4, 2) := by decide +kernel
theorem dX8_tryWishes_171 : decode cX8_tryWishes 171 = .ok (.aload_n 0, 1) := by decide +kernel
theorem dX8_tryWishes_172 : decode cX8_tryWishes 172 = .ok (.getfield 12, 3) := by decide +kernel
theorem dX8_tryWishes_175 : decode cX8_tryWishes 175 = .ok (.dup, 1) := by decide +kernel
theorem dX8_tryWishes_176 : decode cX8_tryWishes 176 = .ok (.getfield 163, 3) := by decide +kernel
theorem dX8_tryWishes_179 : decode cX8_tryWishes 179 = .ok (.iload 4, 2) := by decide +kernel
theorem dX8_tryWishes_181 : decode cX8_tryWishes 181 = .ok (.iadd, 1) := by decide +kernel
theorem dX8_tryWishes_182 : decode cX8_tryWishes 182 = .ok (.putfield 163, 3) := by decide +kernel
theorem dX8_tryWishes_185 : decode cX8_tryWishes 185 = .ok (.iload 4, 2) := by decide +kernel
theorem dX8_tryWishes_187 : decode cX8_tryWishes 187 = .ok (.ireturn, 1) := by decide +kernel
abbrev rX8_tryWishes : Room := { frames := 5, cells := 0, slots := 0, locals := 126 }
set_option maxRecDepth 20000 in
theorem gd_X8_tryWishes_B157 {x : Cx} {y : Cy} (hy : Inj y) (h : OkM x y cX8_tryWishes RX8 10 (some .int) rX8_tryWishes) (kx1 : Mem → Ans) (kb : Int32 → Int32 → Mem → Ans) (a2 : Int32) (a3 : Int32) (a4 : Int32) (hx1 : ∀ M0 : Mem, G x y 163 [(0, .ref (y.2.1 141)), (1, .ref (y.2.1 (sI 0 12))), (2, .int a2)] [] M0 (kx1 M0)) (hb : ∀ (b3 b4 : Int32), ∀ M0 : Mem, G x y 18 [(0, .ref (y.2.1 141)), (1, .ref (y.2.1 (sI 0 12))), (2, .int a2), (3, .int b3), (4, .int b4)] [] M0 (kb b3 b4 M0)) (M : Mem) : G x y 157 [(0, .ref (y.2.1 141)), (1, .ref (y.2.1 (sI 0 12))), (2, .int a2), (3, .int a3), (4, .int a4)] [] M (d_X8_tryWishes_B157 kx1 kb a2 a3 a4 M) := by
  unfold d_X8_tryWishes_B157
  refine G_iinc (pc := 157) (v := a4 + (1)) h.1 h.2.1 (fun v10 => [(4, .int v10), (0, .ref (y.2.1 141)), (1, .ref (y.2.1 (sI 0 12))), (2, .int a2), (3, .int a3)]) dX8_tryWishes_157 (by decide) 4 rfl rfl (fun _ => rfl) (fun v10 => ?_)
  refine G_goto (pc := 160) (tgt := 18) h.1 dX8_tryWishes_160 (by decide) ?_
  exact G_sub [1, 2, 3, 4, 0] rfl (hb a3 v10 M)
set_option maxRecDepth 20000 in
theorem gd_X8_tryWishes_B120 {x : Cx} {y : Cy} (hy : Inj y) (h : OkM x y cX8_tryWishes RX8 10 (some .int) rX8_tryWishes) (kx1 : Mem → Ans) (kb : Int32 → Int32 → Mem → Ans) (a2 : Int32) (a3 : Int32) (a4 : Int32) (a5 : Int32) (a6 : Int32) (s0 : Int32) (hx1 : ∀ M0 : Mem, G x y 163 [(0, .ref (y.2.1 141)), (1, .ref (y.2.1 (sI 0 12))), (2, .int a2)] [] M0 (kx1 M0)) (hb : ∀ (b3 b4 : Int32), ∀ M0 : Mem, G x y 18 [(0, .ref (y.2.1 141)), (1, .ref (y.2.1 (sI 0 12))), (2, .int a2), (3, .int b3), (4, .int b4)] [] M0 (kb b3 b4 M0)) (M : Mem) : G x y 120 [(0, .ref (y.2.1 141)), (1, .ref (y.2.1 (sI 0 12))), (2, .int a2), (3, .int a3), (4, .int a4), (5, .int a5), (6, .int a6)] [.int s0] M (d_X8_tryWishes_B120 kx1 kb a2 a3 a4 a5 a6 s0 M) := by
  unfold d_X8_tryWishes_B120
  refine G_istore (pc := 120) h.1 h.2.1 [(9, .int s0), (0, .ref (y.2.1 141)), (1, .ref (y.2.1 (sI 0 12))), (2, .int a2), (3, .int a3), (4, .int a4), (5, .int a5), (6, .int a6)] dX8_tryWishes_120 (by decide) rfl ?_
  refine G_iload (pc := 122) h.1 dX8_tryWishes_122 0 rfl ?_
  refine G_bipush (pc := 124) (v := (-5)) h.1 dX8_tryWishes_124 (by decide) ?_
  refine G_icmp_ne (pc := 126) (tgt := 135) h.1 dX8_tryWishes_126 (by decide) ?_ ?_
  · refine G_aload_n (pc := 135) h.1 dX8_tryWishes_135 rfl 2 rfl ?_
    refine G_iload_n (pc := 136) h.1 dX8_tryWishes_136 rfl 4 rfl ?_
    refine G_callVv (pc := 137) (As := [.int a3]) (rest := []) h.1 h.2.2.1 lk_X8_176 (ids_s h7_0 12 (by decide)) (eS12 h7_0 _) rfl rfl (c_X7_takeOut x.1.2.1 y hy 0 h7_0 a3 M) rfl rfl (Nat.le_of_ble_eq_true rfl) ⟨rfl, rfl, Nat.le_of_ble_eq_true rfl, Nat.le_of_ble_eq_true rfl⟩ dX8_tryWishes_137 (fun r7 M6 => ?_)
    refine G_aload_n (pc := 140) h.1 dX8_tryWishes_140 rfl 1 rfl ?_
    refine G_get (pc := 141) (v := .ref (y.2.1 (sI 0 0))) h.1 fl_X8_12 lN141 (eM141 _) rfl dX8_tryWishes_141 ?_
    refine G_get (pc := 144) (v := .ref (y.2.1 (sI 0 6))) h.1 fl_X8_106 (ids_s h7_0 0 (by decide)) (eS0 h7_0 _) rfl dX8_tryWishes_144 ?_
    refine G_iload (pc := 147) h.1 dX8_tryWishes_147 6 rfl ?_
    refine G_iload (pc := 149) h.1 dX8_tryWishes_149 7 rfl ?_
    refine G_iload (pc := 151) h.1 dX8_tryWishes_151 0 rfl ?_
    refine G_callV (pc := 153) (As := [.int a5, .int a6, .int s0]) (rest := []) h.1 h.2.2.1 lk_X8_110 (ids_s h7_0 6 (by decide)) (eS6 h7_0 _) rfl rfl (c_X0_append x.1.2.1 y hy 0 h7_0 a5 a6 s0 M6) rfl rfl (Nat.le_of_ble_eq_true rfl) ⟨rfl, rfl, Nat.le_of_ble_eq_true rfl, Nat.le_of_ble_eq_true rfl⟩ dX8_tryWishes_153 (fun r9 M8 => ?_)
    refine G_pop (pc := 156) h.1 dX8_tryWishes_156 rfl ?_
    exact G_sub [1, 2, 3, 4, 5] rfl (gd_X8_tryWishes_B157 hy h kx1 kb a2 a3 a4 hx1 hb M8)
  · refine G_iinc (pc := 129) (v := a3 + (1)) h.1 h.2.1 (fun v11 => [(3, .int v11), (9, .int s0), (0, .ref (y.2.1 141)), (1, .ref (y.2.1 (sI 0 12))), (2, .int a2), (4, .int a4), (5, .int a5), (6, .int a6)]) dX8_tryWishes_129 (by decide) 4 rfl rfl (fun _ => rfl) (fun v11 => ?_)
    refine G_goto (pc := 132) (tgt := 157) h.1 dX8_tryWishes_132 (by decide) ?_
    exact G_sub [2, 3, 4, 0, 5] rfl (gd_X8_tryWishes_B157 hy h kx1 kb a2 v11 a4 hx1 hb M)
set_option maxRecDepth 20000 in
theorem gd_X8_tryWishes_B76 {x : Cx} {y : Cy} (hy : Inj y) (h : OkM x y cX8_tryWishes RX8 10 (some .int) rX8_tryWishes) (kx1 : Mem → Ans) (kb : Int32 → Int32 → Mem → Ans) (a2 : Int32) (a3 : Int32) (a4 : Int32) (a5 : Int32) (a6 : Int32) (a7 : Int32) (s0 : Int32) (hx1 : ∀ M0 : Mem, G x y 163 [(0, .ref (y.2.1 141)), (1, .ref (y.2.1 (sI 0 12))), (2, .int a2)] [] M0 (kx1 M0)) (hb : ∀ (b3 b4 : Int32), ∀ M0 : Mem, G x y 18 [(0, .ref (y.2.1 141)), (1, .ref (y.2.1 (sI 0 12))), (2, .int a2), (3, .int b3), (4, .int b4)] [] M0 (kb b3 b4 M0)) (M : Mem) : G x y 76 [(0, .ref (y.2.1 141)), (1, .ref (y.2.1 (sI 0 12))), (2, .int a2), (3, .int a3), (4, .int a4), (5, .int a5), (6, .int a6), (7, .int a7)] [.int s0] M (d_X8_tryWishes_B76 kx1 kb a2 a3 a4 a5 a6 a7 s0 M) := by
  unfold d_X8_tryWishes_B76
  refine G_istore (pc := 76) h.1 h.2.1 [(8, .int s0), (0, .ref (y.2.1 141)), (1, .ref (y.2.1 (sI 0 12))), (2, .int a2), (3, .int a3), (4, .int a4), (5, .int a5), (6, .int a6), (7, .int a7)] dX8_tryWishes_76 (by decide) rfl ?_
  refine G_iload (pc := 78) h.1 dX8_tryWishes_78 0 rfl ?_
  refine G_if_eq (pc := 80) (tgt := 118) h.1 dX8_tryWishes_80 (by decide) ?_ ?_
  · refine G_bipush (pc := 118) (v := (-5)) h.1 dX8_tryWishes_118 (by decide) ?_
    exact G_sub [1, 2, 3, 4, 5, 6, 7] rfl (gd_X8_tryWishes_B120 hy h kx1 kb a2 a3 a4 a5 a6 (-5 : Int32) hx1 hb M)
  · refine G_aload_n (pc := 83) h.1 dX8_tryWishes_83 rfl 1 rfl ?_
    refine G_get (pc := 84) (v := .ref (y.2.1 132)) h.1 fl_X8_50 lN141 (eM141 _) rfl dX8_tryWishes_84 ?_
    refine G_aload_n (pc := 87) h.1 dX8_tryWishes_87 rfl 1 rfl ?_
    refine G_get (pc := 88) (v := .ref (y.2.1 (sI 0 0))) h.1 fl_X8_12 lN141 (eM141 _) rfl dX8_tryWishes_88 ?_
    refine G_aload_n (pc := 91) h.1 dX8_tryWishes_91 rfl 1 rfl ?_
    refine G_get (pc := 92) (v := .ref (y.2.1 (sI 0 0))) h.1 fl_X8_12 lN141 (eM141 _) rfl dX8_tryWishes_92 ?_
    refine G_get (pc := 95) (v := .ref (y.2.1 (sI 0 6))) h.1 fl_X8_106 (ids_s h7_0 0 (by decide)) (eS0 h7_0 _) rfl dX8_tryWishes_95 ?_
    refine G_get (pc := 98) (v := .int (M (sI 0 6) 0)) h.1 fl_X8_158 (ids_s h7_0 6 (by decide)) (eS6 h7_0 _) rfl dX8_tryWishes_98 ?_
    refine G_iload (pc := 101) h.1 dX8_tryWishes_101 6 rfl ?_
    refine G_iload (pc := 103) h.1 dX8_tryWishes_103 7 rfl ?_
    refine G_iload (pc := 105) h.1 dX8_tryWishes_105 8 rfl ?_
    refine G_iload (pc := 107) h.1 dX8_tryWishes_107 8 rfl ?_
    refine G_bipush (pc := 109) (v := (20)) h.1 dX8_tryWishes_109 (by decide) ?_
    refine G_iadd (pc := 111) h.1 dX8_tryWishes_111 ?_
    refine G_callV (pc := 112) (As := [.ref (y.2.1 (sI 0 0)), .int (M (sI 0 6) 0), .int a5, .int a6, .int a7, .int (a7 + (20 : Int32))]) (rest := []) h.1 h.2.2.1 lk_X8_159 lN132 (eM132 _) rfl rfl (c_X3_firstFit x.1.2.1 y hy 0 h7_0 (M (sI 0 6) 0) a5 a6 a7 (a7 + (20 : Int32)) M) rfl rfl (Nat.le_of_ble_eq_true rfl) ⟨rfl, rfl, Nat.le_of_ble_eq_true rfl, Nat.le_of_ble_eq_true rfl⟩ dX8_tryWishes_112 (fun r13 M12 => ?_)
    refine G_goto (pc := 115) (tgt := 120) h.1 dX8_tryWishes_115 (by decide) ?_
    exact G_sub [1, 2, 3, 4, 5, 6, 7] rfl (gd_X8_tryWishes_B120 hy h kx1 kb a2 a3 a4 a5 a6 r13 hx1 hb M12)
set_option maxRecDepth 20000 in
theorem gd_X8_tryWishes_L18_body {x : Cx} {y : Cy} (hy : Inj y) (h : OkM x y cX8_tryWishes RX8 10 (some .int) rX8_tryWishes) (a2 : Int32) (kx1 : Mem → Ans) (hx1 : ∀ M0 : Mem, G x y 163 [(0, .ref (y.2.1 141)), (1, .ref (y.2.1 (sI 0 12))), (2, .int a2)] [] M0 (kx1 M0)) (kb : Int32 → Int32 → Mem → Ans) (hb : ∀ (b3 b4 : Int32), ∀ M0 : Mem, G x y 18 [(0, .ref (y.2.1 141)), (1, .ref (y.2.1 (sI 0 12))), (2, .int a2), (3, .int b3), (4, .int b4)] [] M0 (kb b3 b4 M0)) (a3 : Int32) (a4 : Int32) (M : Mem) : G x y 18 [(0, .ref (y.2.1 141)), (1, .ref (y.2.1 (sI 0 12))), (2, .int a2), (3, .int a3), (4, .int a4)] [] M (d_X8_tryWishes_L18_body a2 kx1 kb a3 a4 M) := by
  unfold d_X8_tryWishes_L18_body
  refine G_iload (pc := 18) h.1 dX8_tryWishes_18 4 rfl ?_
  refine G_iload_n (pc := 20) h.1 dX8_tryWishes_20 rfl 2 rfl ?_
  refine G_icmp_ge (pc := 21) (tgt := 163) h.1 dX8_tryWishes_21 (by decide) ?_ ?_
  · exact G_sub [0, 1, 2] rfl (hx1 M)
  · refine G_aload_n (pc := 24) h.1 dX8_tryWishes_24 rfl 1 rfl ?_
    refine G_iload_n (pc := 25) h.1 dX8_tryWishes_25 rfl 3 rfl ?_
    refine G_callV (pc := 26) (As := [.int a3]) (rest := []) h.1 h.2.2.1 lk_X8_174 (ids_s h7_0 12 (by decide)) (eS12 h7_0 _) rfl rfl (c_X7_has x.1.2.1 y hy 0 h7_0 a3 M) rfl rfl (Nat.le_of_ble_eq_true rfl) ⟨rfl, rfl, Nat.le_of_ble_eq_true rfl, Nat.le_of_ble_eq_true rfl⟩ dX8_tryWishes_26 (fun r2 M1 => ?_)
    refine G_if_eq (pc := 29) (tgt := 163) h.1 dX8_tryWishes_29 (by decide) ?_ ?_
    · exact G_sub [0, 1, 2] rfl (hx1 M1)
    · refine G_aload_n (pc := 32) h.1 dX8_tryWishes_32 rfl 1 rfl ?_
      refine G_get (pc := 33) (v := .ref (y.2.1 (sI 0 13))) h.1 fl_X8_252 (ids_s h7_0 12 (by decide)) (eS12 h7_0 _) rfl dX8_tryWishes_33 ?_
      refine G_iload_n (pc := 36) h.1 dX8_tryWishes_36 rfl 3 rfl ?_
      refine G_iald (pc := 37) h.1 (ids_s h7_0 13 (by decide)) (eS13 h7_0 _) dX8_tryWishes_37 ?_
      refine G_top (fun v3 => ?_)
      refine G_istore (pc := 38) h.1 h.2.1 [(5, .int v3), (0, .ref (y.2.1 141)), (1, .ref (y.2.1 (sI 0 12))), (2, .int a2), (3, .int a3), (4, .int a4)] dX8_tryWishes_38 (by decide) rfl ?_
      refine G_aload_n (pc := 40) h.1 dX8_tryWishes_40 rfl 2 rfl ?_
      refine G_get (pc := 41) (v := .ref (y.2.1 (sI 0 14))) h.1 fl_X8_175 (ids_s h7_0 12 (by decide)) (eS12 h7_0 _) rfl dX8_tryWishes_41 ?_
      refine G_iload_n (pc := 44) h.1 dX8_tryWishes_44 rfl 4 rfl ?_
      refine G_iald (pc := 45) h.1 (ids_s h7_0 14 (by decide)) (eS14 h7_0 _) dX8_tryWishes_45 ?_
      refine G_top (fun v4 => ?_)
      refine G_istore (pc := 46) h.1 h.2.1 [(6, .int v4), (5, .int v3), (0, .ref (y.2.1 141)), (1, .ref (y.2.1 (sI 0 12))), (2, .int a2), (3, .int a3), (4, .int a4)] dX8_tryWishes_46 (by decide) rfl ?_
      refine G_aload_n (pc := 48) h.1 dX8_tryWishes_48 rfl 3 rfl ?_
      refine G_get (pc := 49) (v := .ref (y.2.1 (sI 0 15))) h.1 fl_X8_253 (ids_s h7_0 12 (by decide)) (eS12 h7_0 _) rfl dX8_tryWishes_49 ?_
      refine G_iload_n (pc := 52) h.1 dX8_tryWishes_52 rfl 5 rfl ?_
      refine G_iald (pc := 53) h.1 (ids_s h7_0 15 (by decide)) (eS15 h7_0 _) dX8_tryWishes_53 ?_
      refine G_top (fun v5 => ?_)
      refine G_istore (pc := 54) h.1 h.2.1 [(7, .int v5), (6, .int v4), (5, .int v3), (0, .ref (y.2.1 141)), (1, .ref (y.2.1 (sI 0 12))), (2, .int a2), (3, .int a3), (4, .int a4)] dX8_tryWishes_54 (by decide) rfl ?_
      refine G_aload_n (pc := 56) h.1 dX8_tryWishes_56 rfl 3 rfl ?_
      refine G_get (pc := 57) (v := .ref (y.2.1 (sI 0 0))) h.1 fl_X8_12 lN141 (eM141 _) rfl dX8_tryWishes_57 ?_
      refine G_get (pc := 60) (v := .ref (y.2.1 (sI 0 6))) h.1 fl_X8_106 (ids_s h7_0 0 (by decide)) (eS0 h7_0 _) rfl dX8_tryWishes_60 ?_
      refine G_get (pc := 63) (v := .int (M1 (sI 0 6) 0)) h.1 fl_X8_158 (ids_s h7_0 6 (by decide)) (eS6 h7_0 _) rfl dX8_tryWishes_63 ?_
      refine G_bipush (pc := 66) (v := (60)) h.1 dX8_tryWishes_66 (by decide) ?_
      refine G_icmp_ge (pc := 68) (tgt := 75) h.1 dX8_tryWishes_68 (by decide) ?_ ?_
      · refine G_iconst (pc := 75) (v := (0)) h.1 dX8_tryWishes_75 (by decide) ?_
        exact G_sub [3, 4, 5, 6, 7, 2, 1, 0] rfl (gd_X8_tryWishes_B76 hy h kx1 kb a2 a3 a4 v3 v4 v5 (0 : Int32) hx1 hb M1)
      · refine G_iconst (pc := 71) (v := (1)) h.1 dX8_tryWishes_71 (by decide) ?_
        refine G_goto (pc := 72) (tgt := 76) h.1 dX8_tryWishes_72 (by decide) ?_
        exact G_sub [3, 4, 5, 6, 7, 2, 1, 0] rfl (gd_X8_tryWishes_B76 hy h kx1 kb a2 a3 a4 v3 v4 v5 (1 : Int32) hx1 hb M1)
set_option maxRecDepth 20000 in
theorem gd_X8_tryWishes_L18 {x : Cx} {y : Cy} (hy : Inj y) (h : OkM x y cX8_tryWishes RX8 10 (some .int) rX8_tryWishes) (a2 : Int32) (kx1 : Mem → Ans) (hx1 : ∀ M0 : Mem, G x y 163 [(0, .ref (y.2.1 141)), (1, .ref (y.2.1 (sI 0 12))), (2, .int a2)] [] M0 (kx1 M0)) : ∀ (n : Nat) (a3 : Int32) (a4 : Int32) (M : Mem), G x y 18 [(0, .ref (y.2.1 141)), (1, .ref (y.2.1 (sI 0 12))), (2, .int a2), (3, .int a3), (4, .int a4)] [] M (d_X8_tryWishes_L18 a2 kx1 n a3 a4 M) := by
  intro n
  induction n with
  | zero => intro a3 a4 M; exact G_none
  | succ n ih => intro a3 a4 M; exact gd_X8_tryWishes_L18_body hy h a2 kx1 hx1 _ ih a3 a4 M
set_option maxRecDepth 20000 in
theorem gd_X8_tryWishes_B163 {x : Cx} {y : Cy} (hy : Inj y) (h : OkM x y cX8_tryWishes RX8 10 (some .int) rX8_tryWishes) (a2 : Int32) (M : Mem) : G x y 163 [(0, .ref (y.2.1 141)), (1, .ref (y.2.1 (sI 0 12))), (2, .int a2)] [] M (d_X8_tryWishes_B163 a2 M) := by
  unfold d_X8_tryWishes_B163
  refine G_iload_n (pc := 163) h.1 dX8_tryWishes_163 rfl 2 rfl ?_
  refine G_aload_n (pc := 164) h.1 dX8_tryWishes_164 rfl 1 rfl ?_
  refine G_get (pc := 165) (v := .int (M (sI 0 12) 0)) h.1 fl_X8_170 (ids_s h7_0 12 (by decide)) (eS12 h7_0 _) rfl dX8_tryWishes_165 ?_
  refine G_isub (pc := 168) h.1 dX8_tryWishes_168 ?_
  refine G_top (fun v15 => ?_)
  refine G_istore (pc := 169) h.1 h.2.1 [(4, .int v15), (0, .ref (y.2.1 141)), (1, .ref (y.2.1 (sI 0 12))), (2, .int a2)] dX8_tryWishes_169 (by decide) rfl ?_
  refine G_aload_n (pc := 171) h.1 dX8_tryWishes_171 rfl 1 rfl ?_
  refine G_get (pc := 172) (v := .ref (y.2.1 (sI 0 0))) h.1 fl_X8_12 lN141 (eM141 _) rfl dX8_tryWishes_172 ?_
  refine G_dup (pc := 175) h.1 dX8_tryWishes_175 rfl ?_
  refine G_get (pc := 176) (v := .int (M (sI 0 0) 4)) h.1 fl_X8_163 (ids_s h7_0 0 (by decide)) (eS0 h7_0 _) rfl dX8_tryWishes_176 ?_
  refine G_iload (pc := 179) h.1 dX8_tryWishes_179 0 rfl ?_
  refine G_iadd (pc := 181) h.1 dX8_tryWishes_181 ?_
  refine G_put (pc := 182) h.1 fp_X8_163 (ids_s h7_0 0 (by decide)) (fun m => eS0 h7_0 m) (fun _ => rfl) (fun _ => Nat.le_of_ble_eq_true rfl) rfl rfl dX8_tryWishes_182 (fun M16 => ?_)
  refine G_iload (pc := 185) h.1 dX8_tryWishes_185 0 rfl ?_
  exact G_ret (pc := 187) h rfl dX8_tryWishes_187
set_option maxRecDepth 20000 in
theorem c_X8_tryWishes (l : Launch) (y : Cy) (hy : Inj y) (M : Mem) : CT l y yX8_tryWishes cX8_tryWishes 10 (some .int) rX8_tryWishes [.ref (y.2.1 141)] M (d_X8_tryWishes M) := by
  refine CT_of (by decide) hy (Nat.le_of_ble_eq_true rfl) (fun x hxl h => ?_)
  show G x y 0 [(0, .ref (y.2.1 141))] [] M _
  unfold d_X8_tryWishes
  refine G_aload_n (pc := 0) h.1 dX8_tryWishes_0 rfl 0 rfl ?_
  refine G_get (pc := 1) (v := .ref (y.2.1 (sI 0 0))) h.1 fl_X8_12 lN141 (eM141 _) rfl dX8_tryWishes_1 ?_
  refine G_get (pc := 4) (v := .ref (y.2.1 (sI 0 12))) h.1 fl_X8_166 (ids_s h7_0 0 (by decide)) (eS0 h7_0 _) rfl dX8_tryWishes_4 ?_
  refine G_astore_n (pc := 7) h.1 h.2.1 [(1, .ref (y.2.1 (sI 0 12))), (0, .ref (y.2.1 141))] dX8_tryWishes_7 rfl (by decide) rfl ?_
  refine G_aload_n (pc := 8) h.1 dX8_tryWishes_8 rfl 0 rfl ?_
  refine G_get (pc := 9) (v := .int (M (sI 0 12) 0)) h.1 fl_X8_170 (ids_s h7_0 12 (by decide)) (eS12 h7_0 _) rfl dX8_tryWishes_9 ?_
  refine G_istore_n (pc := 12) h.1 h.2.1 [(2, .int (M (sI 0 12) 0)), (1, .ref (y.2.1 (sI 0 12))), (0, .ref (y.2.1 141))] dX8_tryWishes_12 rfl (by decide) rfl ?_
  refine G_iconst (pc := 13) (v := (0)) h.1 dX8_tryWishes_13 (by decide) ?_
  refine G_istore_n (pc := 14) h.1 h.2.1 [(3, .int (0 : Int32)), (2, .int (M (sI 0 12) 0)), (1, .ref (y.2.1 (sI 0 12))), (0, .ref (y.2.1 141))] dX8_tryWishes_14 rfl (by decide) rfl ?_
  refine G_iconst (pc := 15) (v := (0)) h.1 dX8_tryWishes_15 (by decide) ?_
  refine G_istore (pc := 16) h.1 h.2.1 [(4, .int (0 : Int32)), (3, .int (0 : Int32)), (2, .int (M (sI 0 12) 0)), (1, .ref (y.2.1 (sI 0 12))), (0, .ref (y.2.1 141))] dX8_tryWishes_16 (by decide) rfl ?_
  refine G_sub [4, 3, 2, 1, 0] rfl (gd_X8_tryWishes_L18 hy h (M (sI 0 12) 0) _ (fun M14 => ?_) fuelN (0 : Int32) (0 : Int32) M)
  exact G_sub [0, 1, 2] rfl (gd_X8_tryWishes_B163 hy h (M (sI 0 12) 0) M14)
theorem dX8_cancel_0 : decode cX8_cancel 0 = .ok (.aload_n 0, 1) := by decide +kernel
theorem dX8_cancel_1 : decode cX8_cancel 1 = .ok (.getfield 12, 3) := by decide +kernel
theorem dX8_cancel_4 : decode cX8_cancel 4 = .ok (.getfield 106, 3) := by decide +kernel
theorem dX8_cancel_7 : decode cX8_cancel 7 = .ok (.iload_n 1, 1) := by decide +kernel
theorem dX8_cancel_8 : decode cX8_cancel 8 = .ok (.invokevirtual 114, 3) := by decide +kernel
theorem dX8_cancel_11 : decode cX8_cancel 11 = .ok (.ifCond .ne 5, 3) := by decide +kernel
theorem dX8_cancel_14 : decode cX8_cancel 14 = .ok (.iconst (-1), 1) := by decide +kernel
theorem dX8_cancel_15 : decode cX8_cancel 15 = .ok (.ireturn, 1) := by decide +kernel
theorem dX8_cancel_16 : decode cX8_cancel 16 = .ok (.aload_n 0, 1) := by decide +kernel
theorem dX8_cancel_17 : decode cX8_cancel 17 = .ok (.getfield 12, 3) := by decide +kernel
theorem dX8_cancel_20 : decode cX8_cancel 20 = .ok (.getfield 106, 3) := by decide +kernel
theorem dX8_cancel_23 : decode cX8_cancel 23 = .ok (.iload_n 1, 1) := by decide +kernel
theorem dX8_cancel_24 : decode cX8_cancel 24 = .ok (.invokevirtual 118, 3) := by decide +kernel
theorem dX8_cancel_27 : decode cX8_cancel 27 = .ok (.ifCond .ne 6, 3) := by decide +kernel
theorem dX8_cancel_30 : decode cX8_cancel 30 = .ok (.bipush (-4), 2) := by decide +kernel
theorem dX8_cancel_32 : decode cX8_cancel 32 = .ok (.ireturn, 1) := by decide +kernel
theorem dX8_cancel_33 : decode cX8_cancel 33 = .ok (.aload_n 0, 1) := by decide +kernel
theorem dX8_cancel_34 : decode cX8_cancel 34 = .ok (.getfield 29, 3) := by decide +kernel
theorem dX8_cancel_37 : decode cX8_cancel 37 = .ok (.aload_n 0, 1) := by decide +kernel
theorem dX8_cancel_38 : decode cX8_cancel 38 = .ok (.getfield 12, 3) := by decide +kernel
theorem dX8_cancel_41 : decode cX8_cancel 41 = .ok (.invokevirtual 72, 3) := by decide +kernel
theorem dX8_cancel_44 : decode cX8_cancel 44 = .ok (.aload_n 0, 1) := by decide +kernel
theorem dX8_cancel_45 : decode cX8_cancel 45 = .ok (.getfield 12, 3) := by decide +kernel
theorem dX8_cancel_48 : decode cX8_cancel 48 = .ok (.getfield 106, 3) := by decide +kernel
theorem dX8_cancel_51 : decode cX8_cancel 51 = .ok (.getfield 121, 3) := by decide +kernel
theorem dX8_cancel_54 : decode cX8_cancel 54 = .ok (.iload_n 1, 1) := by decide +kernel
theorem dX8_cancel_55 : decode cX8_cancel 55 = .ok (.iconst 4, 1) := by decide +kernel
theorem dX8_cancel_56 : decode cX8_cancel 56 = .ok (.iastore, 1) := by decide +kernel
theorem dX8_cancel_57 : decode cX8_cancel 57 = .ok (.aload_n 0, 1) := by decide +kernel
theorem dX8_cancel_58 : decode cX8_cancel 58 = .ok (.invokevirtual 125, 3) := by decide +kernel
theorem dX8_cancel_61 : decode cX8_cancel 61 = .ok (.ireturn, 1) := by decide +kernel
abbrev rX8_cancel : Room := { frames := 6, cells := 0, slots := 0, locals := 155 }
set_option maxRecDepth 20000 in
theorem c_X8_cancel (l : Launch) (y : Cy) (hy : Inj y) (p1 : Int32) (M : Mem) : CT l y yX8_cancel cX8_cancel 2 (some .int) rX8_cancel [.ref (y.2.1 141), .int p1] M (d_X8_cancel p1 M) := by
  refine CT_of (by decide) hy (Nat.le_of_ble_eq_true rfl) (fun x hxl h => ?_)
  show G x y 0 [(0, .ref (y.2.1 141)), (1, .int p1)] [] M _
  unfold d_X8_cancel
  refine G_aload_n (pc := 0) h.1 dX8_cancel_0 rfl 0 rfl ?_
  refine G_get (pc := 1) (v := .ref (y.2.1 (sI 0 0))) h.1 fl_X8_12 lN141 (eM141 _) rfl dX8_cancel_1 ?_
  refine G_get (pc := 4) (v := .ref (y.2.1 (sI 0 6))) h.1 fl_X8_106 (ids_s h7_0 0 (by decide)) (eS0 h7_0 _) rfl dX8_cancel_4 ?_
  refine G_iload_n (pc := 7) h.1 dX8_cancel_7 rfl 1 rfl ?_
  refine G_callV (pc := 8) (As := [.int p1]) (rest := []) h.1 h.2.2.1 lk_X8_114 (ids_s h7_0 6 (by decide)) (eS6 h7_0 _) rfl rfl (c_X0_has x.1.2.1 y hy 0 h7_0 p1 M) rfl rfl (Nat.le_of_ble_eq_true rfl) ⟨rfl, rfl, Nat.le_of_ble_eq_true rfl, Nat.le_of_ble_eq_true rfl⟩ dX8_cancel_8 (fun r2 M1 => ?_)
  refine G_if_ne (pc := 11) (tgt := 16) h.1 dX8_cancel_11 (by decide) ?_ ?_
  · refine G_aload_n (pc := 16) h.1 dX8_cancel_16 rfl 0 rfl ?_
    refine G_get (pc := 17) (v := .ref (y.2.1 (sI 0 0))) h.1 fl_X8_12 lN141 (eM141 _) rfl dX8_cancel_17 ?_
    refine G_get (pc := 20) (v := .ref (y.2.1 (sI 0 6))) h.1 fl_X8_106 (ids_s h7_0 0 (by decide)) (eS0 h7_0 _) rfl dX8_cancel_20 ?_
    refine G_iload_n (pc := 23) h.1 dX8_cancel_23 rfl 1 rfl ?_
    refine G_callV (pc := 24) (As := [.int p1]) (rest := []) h.1 h.2.2.1 lk_X8_118 (ids_s h7_0 6 (by decide)) (eS6 h7_0 _) rfl rfl (c_X0_isOpen x.1.2.1 y hy 0 h7_0 p1 M1) rfl rfl (Nat.le_of_ble_eq_true rfl) ⟨rfl, rfl, Nat.le_of_ble_eq_true rfl, Nat.le_of_ble_eq_true rfl⟩ dX8_cancel_24 (fun r4 M3 => ?_)
    refine G_if_ne (pc := 27) (tgt := 33) h.1 dX8_cancel_27 (by decide) ?_ ?_
    · refine G_aload_n (pc := 33) h.1 dX8_cancel_33 rfl 0 rfl ?_
      refine G_get (pc := 34) (v := .ref (y.2.1 134)) h.1 fl_X8_29 lN141 (eM141 _) rfl dX8_cancel_34 ?_
      refine G_aload_n (pc := 37) h.1 dX8_cancel_37 rfl 0 rfl ?_
      refine G_get (pc := 38) (v := .ref (y.2.1 (sI 0 0))) h.1 fl_X8_12 lN141 (eM141 _) rfl dX8_cancel_38 ?_
      refine G_callVv (pc := 41) (As := [.ref (y.2.1 (sI 0 0))]) (rest := []) h.1 h.2.2.1 lk_X8_72 lN134 (eM134 _) rfl rfl (c_X2_push x.1.2.1 y hy 0 h7_0 M3) rfl rfl (Nat.le_of_ble_eq_true rfl) ⟨rfl, rfl, Nat.le_of_ble_eq_true rfl, Nat.le_of_ble_eq_true rfl⟩ dX8_cancel_41 (fun r6 M5 => ?_)
      refine G_aload_n (pc := 44) h.1 dX8_cancel_44 rfl 0 rfl ?_
      refine G_get (pc := 45) (v := .ref (y.2.1 (sI 0 0))) h.1 fl_X8_12 lN141 (eM141 _) rfl dX8_cancel_45 ?_
      refine G_get (pc := 48) (v := .ref (y.2.1 (sI 0 6))) h.1 fl_X8_106 (ids_s h7_0 0 (by decide)) (eS0 h7_0 _) rfl dX8_cancel_48 ?_
      refine G_get (pc := 51) (v := .ref (y.2.1 (sI 0 10))) h.1 fl_X8_121 (ids_s h7_0 6 (by decide)) (eS6 h7_0 _) rfl dX8_cancel_51 ?_
      refine G_iload_n (pc := 54) h.1 dX8_cancel_54 rfl 1 rfl ?_
      refine G_iconst (pc := 55) (v := (4)) h.1 dX8_cancel_55 (by decide) ?_
      refine G_iast (pc := 56) h.1 (ids_s h7_0 10 (by decide)) (fun m => eS10 h7_0 m) dX8_cancel_56 (fun M7 => ?_)
      refine G_aload_n (pc := 57) h.1 dX8_cancel_57 rfl 0 rfl ?_
      refine G_callV (pc := 58) (As := []) (rest := []) h.1 h.2.2.1 lk_X8_125 lN141 (eM141 _) rfl rfl (c_X8_tryWishes x.1.2.1 y hy M7) rfl rfl (Nat.le_of_ble_eq_true rfl) ⟨rfl, rfl, Nat.le_of_ble_eq_true rfl, Nat.le_of_ble_eq_true rfl⟩ dX8_cancel_58 (fun r9 M8 => ?_)
      exact G_ret (pc := 61) h rfl dX8_cancel_61
    · refine G_bipush (pc := 30) (v := (-4)) h.1 dX8_cancel_30 (by decide) ?_
      exact G_ret (pc := 32) h rfl dX8_cancel_32
  · refine G_iconst (pc := 14) (v := (-1)) h.1 dX8_cancel_14 (by decide) ?_
    exact G_ret (pc := 15) h rfl dX8_cancel_15
theorem dX8_move_0 : decode cX8_move 0 = .ok (.aload_n 0, 1) := by decide +kernel
theorem dX8_move_1 : decode cX8_move 1 = .ok (.getfield 12, 3) := by decide +kernel
theorem dX8_move_4 : decode cX8_move 4 = .ok (.getfield 106, 3) := by decide +kernel
theorem dX8_move_7 : decode cX8_move 7 = .ok (.astore_n 3, 1) := by decide +kernel
theorem dX8_move_8 : decode cX8_move 8 = .ok (.aload_n 3, 1) := by decide +kernel
theorem dX8_move_9 : decode cX8_move 9 = .ok (.iload_n 1, 1) := by decide +kernel
theorem dX8_move_10 : decode cX8_move 10 = .ok (.invokevirtual 114, 3) := by decide +kernel
theorem dX8_move_13 : decode cX8_move 13 = .ok (.ifCond .ne 5, 3) := by decide +kernel
theorem dX8_move_16 : decode cX8_move 16 = .ok (.iconst (-1), 1) := by decide +kernel
theorem dX8_move_17 : decode cX8_move 17 = .ok (.ireturn, 1) := by decide +kernel
theorem dX8_move_18 : decode cX8_move 18 = .ok (.aload_n 3, 1) := by decide +kernel
theorem dX8_move_19 : decode cX8_move 19 = .ok (.getfield 121, 3) := by decide +kernel
theorem dX8_move_22 : decode cX8_move 22 = .ok (.iload_n 1, 1) := by decide +kernel
theorem dX8_move_23 : decode cX8_move 23 = .ok (.iaload, 1) := by decide +kernel
theorem dX8_move_24 : decode cX8_move 24 = .ok (.ifCond .eq 6, 3) := by decide +kernel
theorem dX8_move_27 : decode cX8_move 27 = .ok (.bipush (-4), 2) := by decide +kernel
theorem dX8_move_29 : decode cX8_move 29 = .ok (.ireturn, 1) := by decide +kernel
theorem dX8_move_30 : decode cX8_move 30 = .ok (.aload_n 0, 1) := by decide +kernel
theorem dX8_move_31 : decode cX8_move 31 = .ok (.getfield 12, 3) := by decide +kernel
theorem dX8_move_34 : decode cX8_move 34 = .ok (.iload_n 2, 1) := by decide +kernel
theorem dX8_move_35 : decode cX8_move 35 = .ok (.invokevirtual 128, 3) := by decide +kernel
theorem dX8_move_38 : decode cX8_move 38 = .ok (.ifCond .ne 6, 3) := by decide +kernel
theorem dX8_move_41 : decode cX8_move 41 = .ok (.bipush (-2), 2) := by decide +kernel
theorem dX8_move_43 : decode cX8_move 43 = .ok (.ireturn, 1) := by decide +kernel
theorem dX8_move_44 : decode cX8_move 44 = .ok (.aload_n 3, 1) := by decide +kernel
theorem dX8_move_45 : decode cX8_move 45 = .ok (.getfield 131, 3) := by decide +kernel
theorem dX8_move_48 : decode cX8_move 48 = .ok (.iload_n 1, 1) := by decide +kernel
theorem dX8_move_49 : decode cX8_move 49 = .ok (.iaload, 1) := by decide +kernel
theorem dX8_move_50 : decode cX8_move 50 = .ok (.istore 4, 2) := by decide +kernel
theorem dX8_move_52 : decode cX8_move 52 = .ok (.aload_n 3, 1) := by decide +kernel
theorem dX8_move_53 : decode cX8_move 53 = .ok (.getfield 134, 3) := by decide +kernel
theorem dX8_move_56 : decode cX8_move 56 = .ok (.iload_n 1, 1) := by decide +kernel
theorem dX8_move_57 : decode cX8_move 57 = .ok (.iaload, 1) := by decide +kernel
theorem dX8_move_58 : decode cX8_move 58 = .ok (.istore 5, 2) := by decide +kernel
theorem dX8_move_60 : decode cX8_move 60 = .ok (.aload_n 0, 1) := by decide +kernel
theorem dX8_move_61 : decode cX8_move 61 = .ok (.getfield 50, 3) := by decide +kernel
theorem dX8_move_64 : decode cX8_move 64 = .ok (.aload_n 0, 1) := by decide +kernel
theorem dX8_move_65 : decode cX8_move 65 = .ok (.getfield 12, 3) := by decide +kernel
theorem dX8_move_68 : decode cX8_move 68 = .ok (.iload_n 1, 1) := by decide +kernel
theorem dX8_move_69 : decode cX8_move 69 = .ok (.iload 4, 2) := by decide +kernel
theorem dX8_move_71 : decode cX8_move 71 = .ok (.iload 5, 2) := by decide +kernel
theorem dX8_move_73 : decode cX8_move 73 = .ok (.iload_n 2, 1) := by decide +kernel
theorem dX8_move_74 : decode cX8_move 74 = .ok (.invokevirtual 137, 3) := by decide +kernel
theorem dX8_move_77 : decode cX8_move 77 = .ok (.invokestatic 141, 3) := by decide +kernel
theorem dX8_move_80 : decode cX8_move 80 = .ok (.istore 6, 2) := by decide +kernel
theorem dX8_move_82 : decode cX8_move 82 = .ok (.iload 6, 2) := by decide +kernel
theorem dX8_move_84 : decode cX8_move 84 = .ok (.ifCond .eq 6, 3) := by decide +kernel
theorem dX8_move_87 : decode cX8_move 87 = .ok (.iload 6, 2) := by decide +kernel
theorem dX8_move_89 : decode cX8_move 89 = .ok (.ireturn, 1) := by decide +kernel
theorem dX8_move_90 : decode cX8_move 90 = .ok (.aload_n 3, 1) := by decide +kernel
theorem dX8_move_91 : decode cX8_move 91 = .ok (.getfield 145, 3) := by decide +kernel
theorem dX8_move_94 : decode cX8_move 94 = .ok (.iload_n 1, 1) := by decide +kernel
theorem dX8_move_95 : decode cX8_move 95 = .ok (.iaload, 1) := by decide +kernel
theorem dX8_move_96 : decode cX8_move 96 = .ok (.istore 7, 2) := by decide +kernel
theorem dX8_move_98 : decode cX8_move 98 = .ok (.iload 7, 2) := by decide +kernel
theorem dX8_move_100 : decode cX8_move 100 = .ok (.iload_n 2, 1) := by decide +kernel
theorem dX8_move_101 : decode cX8_move 101 = .ok (.if_icmp .ne 6, 3) := by decide +kernel
theorem dX8_move_104 : decode cX8_move 104 = .ok (.bipush (-5), 2) := by decide +kernel
theorem dX8_move_106 : decode cX8_move 106 = .ok (.ireturn, 1) := by decide +kernel
theorem dX8_move_107 : decode cX8_move 107 = .ok (.aload_n 0, 1) := by decide +kernel
theorem dX8_move_108 : decode cX8_move 108 = .ok (.getfield 29, 3) := by decide +kernel
theorem dX8_move_111 : decode cX8_move 111 = .ok (.aload_n 0, 1) := by decide +kernel
theorem dX8_move_112 : decode cX8_move 112 = .ok (.getfield 12, 3) := by decide +kernel
theorem dX8_move_115 : decode cX8_move 115 = .ok (.invokevirtual 72, 3) := by decide +kernel
theorem dX8_move_118 : decode cX8_move 118 = .ok (.aload_n 3, 1) := by decide +kernel
theorem dX8_move_119 : decode cX8_move 119 = .ok (.getfield 145, 3) := by decide +kernel
theorem dX8_move_122 : decode cX8_move 122 = .ok (.iload_n 1, 1) := by decide +kernel
theorem dX8_move_123 : decode cX8_move 123 = .ok (.iload_n 2, 1) := by decide +kernel
theorem dX8_move_124 : decode cX8_move 124 = .ok (.iastore, 1) := by decide +kernel
theorem dX8_move_125 : decode cX8_move 125 = .ok (.iload 7, 2) := by decide +kernel
theorem dX8_move_127 : decode cX8_move 127 = .ok (.ireturn, 1) := by decide +kernel
abbrev rX8_move : Room := { frames := 5, cells := 0, slots := 0, locals := 122 }
set_option maxRecDepth 20000 in
theorem c_X8_move (l : Launch) (y : Cy) (hy : Inj y) (p1 : Int32) (p2 : Int32) (M : Mem) : CT l y yX8_move cX8_move 8 (some .int) rX8_move [.ref (y.2.1 141), .int p1, .int p2] M (d_X8_move p1 p2 M) := by
  refine CT_of (by decide) hy (Nat.le_of_ble_eq_true rfl) (fun x hxl h => ?_)
  show G x y 0 [(0, .ref (y.2.1 141)), (1, .int p1), (2, .int p2)] [] M _
  unfold d_X8_move
  refine G_aload_n (pc := 0) h.1 dX8_move_0 rfl 0 rfl ?_
  refine G_get (pc := 1) (v := .ref (y.2.1 (sI 0 0))) h.1 fl_X8_12 lN141 (eM141 _) rfl dX8_move_1 ?_
  refine G_get (pc := 4) (v := .ref (y.2.1 (sI 0 6))) h.1 fl_X8_106 (ids_s h7_0 0 (by decide)) (eS0 h7_0 _) rfl dX8_move_4 ?_
  refine G_astore_n (pc := 7) h.1 h.2.1 [(3, .ref (y.2.1 (sI 0 6))), (0, .ref (y.2.1 141)), (1, .int p1), (2, .int p2)] dX8_move_7 rfl (by decide) rfl ?_
  refine G_aload_n (pc := 8) h.1 dX8_move_8 rfl 0 rfl ?_
  refine G_iload_n (pc := 9) h.1 dX8_move_9 rfl 2 rfl ?_
  refine G_callV (pc := 10) (As := [.int p1]) (rest := []) h.1 h.2.2.1 lk_X8_114 (ids_s h7_0 6 (by decide)) (eS6 h7_0 _) rfl rfl (c_X0_has x.1.2.1 y hy 0 h7_0 p1 M) rfl rfl (Nat.le_of_ble_eq_true rfl) ⟨rfl, rfl, Nat.le_of_ble_eq_true rfl, Nat.le_of_ble_eq_true rfl⟩ dX8_move_10 (fun r2 M1 => ?_)
  refine G_if_ne (pc := 13) (tgt := 18) h.1 dX8_move_13 (by decide) ?_ ?_
  · refine G_aload_n (pc := 18) h.1 dX8_move_18 rfl 0 rfl ?_
    refine G_get (pc := 19) (v := .ref (y.2.1 (sI 0 10))) h.1 fl_X8_121 (ids_s h7_0 6 (by decide)) (eS6 h7_0 _) rfl dX8_move_19 ?_
    refine G_iload_n (pc := 22) h.1 dX8_move_22 rfl 2 rfl ?_
    refine G_iald (pc := 23) h.1 (ids_s h7_0 10 (by decide)) (eS10 h7_0 _) dX8_move_23 ?_
    refine G_if_eq (pc := 24) (tgt := 30) h.1 dX8_move_24 (by decide) ?_ ?_
    · refine G_aload_n (pc := 30) h.1 dX8_move_30 rfl 1 rfl ?_
      refine G_get (pc := 31) (v := .ref (y.2.1 (sI 0 0))) h.1 fl_X8_12 lN141 (eM141 _) rfl dX8_move_31 ?_
      refine G_iload_n (pc := 34) h.1 dX8_move_34 rfl 3 rfl ?_
      refine G_callV (pc := 35) (As := [.int p2]) (rest := []) h.1 h.2.2.1 lk_X8_128 (ids_s h7_0 0 (by decide)) (eS0 h7_0 _) rfl rfl (c_X5_canStart x.1.2.1 y hy 0 h7_0 p2 M1) rfl rfl (Nat.le_of_ble_eq_true rfl) ⟨rfl, rfl, Nat.le_of_ble_eq_true rfl, Nat.le_of_ble_eq_true rfl⟩ dX8_move_35 (fun r4 M3 => ?_)
      refine G_if_ne (pc := 38) (tgt := 44) h.1 dX8_move_38 (by decide) ?_ ?_
      · refine G_aload_n (pc := 44) h.1 dX8_move_44 rfl 0 rfl ?_
        refine G_get (pc := 45) (v := .ref (y.2.1 (sI 0 7))) h.1 fl_X8_131 (ids_s h7_0 6 (by decide)) (eS6 h7_0 _) rfl dX8_move_45 ?_
        refine G_iload_n (pc := 48) h.1 dX8_move_48 rfl 2 rfl ?_
        refine G_iald (pc := 49) h.1 (ids_s h7_0 7 (by decide)) (eS7 h7_0 _) dX8_move_49 ?_
        refine G_top (fun v5 => ?_)
        refine G_istore (pc := 50) h.1 h.2.1 [(4, .int v5), (3, .ref (y.2.1 (sI 0 6))), (0, .ref (y.2.1 141)), (1, .int p1), (2, .int p2)] dX8_move_50 (by decide) rfl ?_
        refine G_aload_n (pc := 52) h.1 dX8_move_52 rfl 1 rfl ?_
        refine G_get (pc := 53) (v := .ref (y.2.1 (sI 0 8))) h.1 fl_X8_134 (ids_s h7_0 6 (by decide)) (eS6 h7_0 _) rfl dX8_move_53 ?_
        refine G_iload_n (pc := 56) h.1 dX8_move_56 rfl 3 rfl ?_
        refine G_iald (pc := 57) h.1 (ids_s h7_0 8 (by decide)) (eS8 h7_0 _) dX8_move_57 ?_
        refine G_top (fun v6 => ?_)
        refine G_istore (pc := 58) h.1 h.2.1 [(5, .int v6), (4, .int v5), (3, .ref (y.2.1 (sI 0 6))), (0, .ref (y.2.1 141)), (1, .int p1), (2, .int p2)] dX8_move_58 (by decide) rfl ?_
        refine G_aload_n (pc := 60) h.1 dX8_move_60 rfl 3 rfl ?_
        refine G_get (pc := 61) (v := .ref (y.2.1 132)) h.1 fl_X8_50 lN141 (eM141 _) rfl dX8_move_61 ?_
        refine G_aload_n (pc := 64) h.1 dX8_move_64 rfl 3 rfl ?_
        refine G_get (pc := 65) (v := .ref (y.2.1 (sI 0 0))) h.1 fl_X8_12 lN141 (eM141 _) rfl dX8_move_65 ?_
        refine G_iload_n (pc := 68) h.1 dX8_move_68 rfl 4 rfl ?_
        refine G_iload (pc := 69) h.1 dX8_move_69 1 rfl ?_
        refine G_iload (pc := 71) h.1 dX8_move_71 0 rfl ?_
        refine G_iload_n (pc := 73) h.1 dX8_move_73 rfl 5 rfl ?_
        refine G_callV (pc := 74) (As := [.ref (y.2.1 (sI 0 0)), .int p1, .int v5, .int v6, .int p2]) (rest := []) h.1 h.2.2.1 lk_X8_137 lN132 (eM132 _) rfl rfl (c_X3_reasonAgainst x.1.2.1 y hy 0 h7_0 p1 v5 v6 p2 M3) rfl rfl (Nat.le_of_ble_eq_true rfl) ⟨rfl, rfl, Nat.le_of_ble_eq_true rfl, Nat.le_of_ble_eq_true rfl⟩ dX8_move_74 (fun r8 M7 => ?_)
        refine G_callS (pc := 77) (As := [.int r8]) (rest := []) h.1 h.2.2.1 lk_X8_141 (c_X8_errorOf x.1.2.1 y hy r8 M7) rfl rfl (Nat.le_of_ble_eq_true rfl) ⟨rfl, rfl, Nat.le_of_ble_eq_true rfl, Nat.le_of_ble_eq_true rfl⟩ dX8_move_77 (fun r10 M9 => ?_)
        refine G_istore (pc := 80) h.1 h.2.1 [(6, .int r10), (5, .int v6), (4, .int v5), (3, .ref (y.2.1 (sI 0 6))), (0, .ref (y.2.1 141)), (1, .int p1), (2, .int p2)] dX8_move_80 (by decide) rfl ?_
        refine G_iload (pc := 82) h.1 dX8_move_82 0 rfl ?_
        refine G_if_eq (pc := 84) (tgt := 90) h.1 dX8_move_84 (by decide) ?_ ?_
        · refine G_aload_n (pc := 90) h.1 dX8_move_90 rfl 3 rfl ?_
          refine G_get (pc := 91) (v := .ref (y.2.1 (sI 0 9))) h.1 fl_X8_145 (ids_s h7_0 6 (by decide)) (eS6 h7_0 _) rfl dX8_move_91 ?_
          refine G_iload_n (pc := 94) h.1 dX8_move_94 rfl 5 rfl ?_
          refine G_iald (pc := 95) h.1 (ids_s h7_0 9 (by decide)) (eS9 h7_0 _) dX8_move_95 ?_
          refine G_top (fun v11 => ?_)
          refine G_istore (pc := 96) h.1 h.2.1 [(7, .int v11), (6, .int r10), (5, .int v6), (4, .int v5), (3, .ref (y.2.1 (sI 0 6))), (0, .ref (y.2.1 141)), (1, .int p1), (2, .int p2)] dX8_move_96 (by decide) rfl ?_
          refine G_iload (pc := 98) h.1 dX8_move_98 0 rfl ?_
          refine G_iload_n (pc := 100) h.1 dX8_move_100 rfl 7 rfl ?_
          refine G_icmp_ne (pc := 101) (tgt := 107) h.1 dX8_move_101 (by decide) ?_ ?_
          · refine G_aload_n (pc := 107) h.1 dX8_move_107 rfl 5 rfl ?_
            refine G_get (pc := 108) (v := .ref (y.2.1 134)) h.1 fl_X8_29 lN141 (eM141 _) rfl dX8_move_108 ?_
            refine G_aload_n (pc := 111) h.1 dX8_move_111 rfl 5 rfl ?_
            refine G_get (pc := 112) (v := .ref (y.2.1 (sI 0 0))) h.1 fl_X8_12 lN141 (eM141 _) rfl dX8_move_112 ?_
            refine G_callVv (pc := 115) (As := [.ref (y.2.1 (sI 0 0))]) (rest := []) h.1 h.2.2.1 lk_X8_72 lN134 (eM134 _) rfl rfl (c_X2_push x.1.2.1 y hy 0 h7_0 M9) rfl rfl (Nat.le_of_ble_eq_true rfl) ⟨rfl, rfl, Nat.le_of_ble_eq_true rfl, Nat.le_of_ble_eq_true rfl⟩ dX8_move_115 (fun r13 M12 => ?_)
            refine G_aload_n (pc := 118) h.1 dX8_move_118 rfl 4 rfl ?_
            refine G_get (pc := 119) (v := .ref (y.2.1 (sI 0 9))) h.1 fl_X8_145 (ids_s h7_0 6 (by decide)) (eS6 h7_0 _) rfl dX8_move_119 ?_
            refine G_iload_n (pc := 122) h.1 dX8_move_122 rfl 6 rfl ?_
            refine G_iload_n (pc := 123) h.1 dX8_move_123 rfl 7 rfl ?_
            refine G_iast (pc := 124) h.1 (ids_s h7_0 9 (by decide)) (fun m => eS9 h7_0 m) dX8_move_124 (fun M14 => ?_)
            refine G_iload (pc := 125) h.1 dX8_move_125 0 rfl ?_
            exact G_ret (pc := 127) h rfl dX8_move_127
          · refine G_bipush (pc := 104) (v := (-5)) h.1 dX8_move_104 (by decide) ?_
            exact G_ret (pc := 106) h rfl dX8_move_106
        · refine G_iload (pc := 87) h.1 dX8_move_87 0 rfl ?_
          exact G_ret (pc := 89) h rfl dX8_move_89
      · refine G_bipush (pc := 41) (v := (-2)) h.1 dX8_move_41 (by decide) ?_
        exact G_ret (pc := 43) h rfl dX8_move_43
    · refine G_bipush (pc := 27) (v := (-4)) h.1 dX8_move_27 (by decide) ?_
      exact G_ret (pc := 29) h rfl dX8_move_29
  · refine G_iconst (pc := 16) (v := (-1)) h.1 dX8_move_16 (by decide) ?_
    exact G_ret (pc := 17) h rfl dX8_move_17
theorem dX8_wasRepaired_0 : decode cX8_wasRepaired 0 = .ok (.iload_n 1, 1) := by decide +kernel
theorem dX8_wasRepaired_1 : decode cX8_wasRepaired 1 = .ok (.ifCond .lt 18, 3) := by decide +kernel
theorem dX8_wasRepaired_4 : decode cX8_wasRepaired 4 = .ok (.iload_n 1, 1) := by decide +kernel
theorem dX8_wasRepaired_5 : decode cX8_wasRepaired 5 = .ok (.bipush 60, 2) := by decide +kernel
theorem dX8_wasRepaired_7 : decode cX8_wasRepaired 7 = .ok (.if_icmp .ge 12, 3) := by decide +kernel
theorem dX8_wasRepaired_10 : decode cX8_wasRepaired 10 = .ok (.aload_n 0, 1) := by decide +kernel
theorem dX8_wasRepaired_11 : decode cX8_wasRepaired 11 = .ok (.getfield 54, 3) := by decide +kernel
theorem dX8_wasRepaired_14 : decode cX8_wasRepaired 14 = .ok (.iload_n 1, 1) := by decide +kernel
theorem dX8_wasRepaired_15 : decode cX8_wasRepaired 15 = .ok (.baload, 1) := by decide +kernel
theorem dX8_wasRepaired_16 : decode cX8_wasRepaired 16 = .ok (.ifCond .eq 7, 3) := by decide +kernel
theorem dX8_wasRepaired_19 : decode cX8_wasRepaired 19 = .ok (.iconst 1, 1) := by decide +kernel
theorem dX8_wasRepaired_20 : decode cX8_wasRepaired 20 = .ok (.goto 4, 3) := by decide +kernel
theorem dX8_wasRepaired_23 : decode cX8_wasRepaired 23 = .ok (.iconst 0, 1) := by decide +kernel
theorem dX8_wasRepaired_24 : decode cX8_wasRepaired 24 = .ok (.ireturn, 1) := by decide +kernel
abbrev rX8_wasRepaired : Room := { frames := 0, cells := 0, slots := 0, locals := 0 }
set_option maxRecDepth 20000 in
theorem c_X8_wasRepaired (l : Launch) (y : Cy) (hy : Inj y) (p1 : Int32) (M : Mem) : CT l y yX8_wasRepaired cX8_wasRepaired 2 (some .boolean) rX8_wasRepaired [.ref (y.2.1 141), .int p1] M (d_X8_wasRepaired p1 M) := by
  refine CT_of (by decide) hy (Nat.le_of_ble_eq_true rfl) (fun x hxl h => ?_)
  show G x y 0 [(0, .ref (y.2.1 141)), (1, .int p1)] [] M _
  unfold d_X8_wasRepaired
  refine G_iload_n (pc := 0) h.1 dX8_wasRepaired_0 rfl 1 rfl ?_
  refine G_if_lt (pc := 1) (tgt := 19) h.1 dX8_wasRepaired_1 (by decide) ?_ ?_
  · refine G_iconst (pc := 19) (v := (1)) h.1 dX8_wasRepaired_19 (by decide) ?_
    refine G_goto (pc := 20) (tgt := 24) h.1 dX8_wasRepaired_20 (by decide) ?_
    exact G_ret (pc := 24) h rfl dX8_wasRepaired_24
  · refine G_iload_n (pc := 4) h.1 dX8_wasRepaired_4 rfl 1 rfl ?_
    refine G_bipush (pc := 5) (v := (60)) h.1 dX8_wasRepaired_5 (by decide) ?_
    refine G_icmp_ge (pc := 7) (tgt := 19) h.1 dX8_wasRepaired_7 (by decide) ?_ ?_
    · refine G_iconst (pc := 19) (v := (1)) h.1 dX8_wasRepaired_19 (by decide) ?_
      refine G_goto (pc := 20) (tgt := 24) h.1 dX8_wasRepaired_20 (by decide) ?_
      exact G_ret (pc := 24) h rfl dX8_wasRepaired_24
    · refine G_aload_n (pc := 10) h.1 dX8_wasRepaired_10 rfl 0 rfl ?_
      refine G_get (pc := 11) (v := .ref (y.2.1 142)) h.1 fl_X8_54 lN141 (eM141 _) rfl dX8_wasRepaired_11 ?_
      refine G_iload_n (pc := 14) h.1 dX8_wasRepaired_14 rfl 1 rfl ?_
      refine G_zald (pc := 15) h.1 lN142 (eM142 _) dX8_wasRepaired_15 ?_
      refine G_if_eq (pc := 16) (tgt := 23) h.1 dX8_wasRepaired_16 (by decide) ?_ ?_
      · refine G_iconst (pc := 23) (v := (0)) h.1 dX8_wasRepaired_23 (by decide) ?_
        exact G_ret (pc := 24) h rfl dX8_wasRepaired_24
      · refine G_iconst (pc := 19) (v := (1)) h.1 dX8_wasRepaired_19 (by decide) ?_
        refine G_goto (pc := 20) (tgt := 24) h.1 dX8_wasRepaired_20 (by decide) ?_
        exact G_ret (pc := 24) h rfl dX8_wasRepaired_24
theorem dX8_firstToRepair_0 : decode cX8_firstToRepair 0 = .ok (.aload_n 0, 1) := by decide +kernel
theorem dX8_firstToRepair_1 : decode cX8_firstToRepair 1 = .ok (.invokevirtual 277, 3) := by decide +kernel
theorem dX8_firstToRepair_4 : decode cX8_firstToRepair 4 = .ok (.iconst 0, 1) := by decide +kernel
theorem dX8_firstToRepair_5 : decode cX8_firstToRepair 5 = .ok (.istore_n 1, 1) := by decide +kernel
theorem dX8_firstToRepair_6 : decode cX8_firstToRepair 6 = .ok (.iload_n 1, 1) := by decide +kernel
theorem dX8_firstToRepair_7 : decode cX8_firstToRepair 7 = .ok (.aload_n 0, 1) := by decide +kernel
theorem dX8_firstToRepair_8 : decode cX8_firstToRepair 8 = .ok (.getfield 43, 3) := by decide +kernel
theorem dX8_firstToRepair_11 : decode cX8_firstToRepair 11 = .ok (.getfield 294, 3) := by decide +kernel
theorem dX8_firstToRepair_14 : decode cX8_firstToRepair 14 = .ok (.if_icmp .ge 56, 3) := by decide +kernel
theorem dX8_firstToRepair_17 : decode cX8_firstToRepair 17 = .ok (.aload_n 0, 1) := by decide +kernel
theorem dX8_firstToRepair_18 : decode cX8_firstToRepair 18 = .ok (.getfield 43, 3) := by decide +kernel
theorem dX8_firstToRepair_21 : decode cX8_firstToRepair 21 = .ok (.getfield 297, 3) := by decide +kernel
theorem dX8_firstToRepair_24 : decode cX8_firstToRepair 24 = .ok (.iload_n 1, 1) := by decide +kernel
theorem dX8_firstToRepair_25 : decode cX8_firstToRepair 25 = .ok (.iaload, 1) := by decide +kernel
theorem dX8_firstToRepair_26 : decode cX8_firstToRepair 26 = .ok (.istore_n 2, 1) := by decide +kernel
theorem dX8_firstToRepair_27 : decode cX8_firstToRepair 27 = .ok (.aload_n 0, 1) := by decide +kernel
theorem dX8_firstToRepair_28 : decode cX8_firstToRepair 28 = .ok (.getfield 43, 3) := by decide +kernel
theorem dX8_firstToRepair_31 : decode cX8_firstToRepair 31 = .ok (.getfield 289, 3) := by decide +kernel
theorem dX8_firstToRepair_34 : decode cX8_firstToRepair 34 = .ok (.iload_n 1, 1) := by decide +kernel
theorem dX8_firstToRepair_35 : decode cX8_firstToRepair 35 = .ok (.iaload, 1) := by decide +kernel
theorem dX8_firstToRepair_36 : decode cX8_firstToRepair 36 = .ok (.iconst 3, 1) := by decide +kernel
theorem dX8_firstToRepair_37 : decode cX8_firstToRepair 37 = .ok (.if_icmp .ne 27, 3) := by decide +kernel
theorem dX8_firstToRepair_40 : decode cX8_firstToRepair 40 = .ok (.aload_n 0, 1) := by decide +kernel
theorem dX8_firstToRepair_41 : decode cX8_firstToRepair 41 = .ok (.getfield 12, 3) := by decide +kernel
theorem dX8_firstToRepair_44 : decode cX8_firstToRepair 44 = .ok (.getfield 106, 3) := by decide +kernel
theorem dX8_firstToRepair_47 : decode cX8_firstToRepair 47 = .ok (.iload_n 2, 1) := by decide +kernel
theorem dX8_firstToRepair_48 : decode cX8_firstToRepair 48 = .ok (.invokevirtual 286, 3) := by decide +kernel
theorem dX8_firstToRepair_51 : decode cX8_firstToRepair 51 = .ok (.ifCond .ne 13, 3) := by decide +kernel
theorem dX8_firstToRepair_54 : decode cX8_firstToRepair 54 = .ok (.aload_n 0, 1) := by decide +kernel
theorem dX8_firstToRepair_55 : decode cX8_firstToRepair 55 = .ok (.iload_n 2, 1) := by decide +kernel
theorem dX8_firstToRepair_56 : decode cX8_firstToRepair 56 = .ok (.invokevirtual 300, 3) := by decide +kernel
theorem dX8_firstToRepair_59 : decode cX8_firstToRepair 59 = .ok (.ifCond .ne 5, 3) := by decide +kernel
theorem dX8_firstToRepair_62 : decode cX8_firstToRepair 62 = .ok (.iload_n 2, 1) := by decide +kernel
theorem dX8_firstToRepair_63 : decode cX8_firstToRepair 63 = .ok (.ireturn, 1) := by decide +kernel
theorem dX8_firstToRepair_64 : decode cX8_firstToRepair 64 = .ok (.iinc 1 1, 3) := by decide +kernel
theorem dX8_firstToRepair_67 : decode cX8_firstToRepair 67 = .ok (.goto (-61), 3) := by decide +kernel
theorem dX8_firstToRepair_70 : decode cX8_firstToRepair 70 = .ok (.iconst (-1), 1) := by decide +kernel
theorem dX8_firstToRepair_71 : decode cX8_firstToRepair 71 = .ok (.ireturn, 1) := by decide +kernel
abbrev rX8_firstToRepair : Room := { frames := 5, cells := 0, slots := 0, locals := 112 }
set_option maxRecDepth 20000 in
theorem gd_X8_firstToRepair_B64 {x : Cx} {y : Cy} (hy : Inj y) (h : OkM x y cX8_firstToRepair RX8 3 (some .int) rX8_firstToRepair) (kx1 : Mem → Ans) (kb : Int32 → Mem → Ans) (a1 : Int32) (hx1 : ∀ M0 : Mem, G x y 70 [] [] M0 (kx1 M0)) (hb : ∀ (b1 : Int32), ∀ M0 : Mem, G x y 6 [(0, .ref (y.2.1 141)), (1, .int b1)] [] M0 (kb b1 M0)) (M : Mem) : G x y 64 [(0, .ref (y.2.1 141)), (1, .int a1)] [] M (d_X8_firstToRepair_B64 kx1 kb a1 M) := by
  unfold d_X8_firstToRepair_B64
  refine G_iinc (pc := 64) (v := a1 + (1)) h.1 h.2.1 (fun v4 => [(1, .int v4), (0, .ref (y.2.1 141))]) dX8_firstToRepair_64 (by decide) 1 rfl rfl (fun _ => rfl) (fun v4 => ?_)
  refine G_goto (pc := 67) (tgt := 6) h.1 dX8_firstToRepair_67 (by decide) ?_
  exact G_sub [1, 0] rfl (hb v4 M)
set_option maxRecDepth 20000 in
theorem gd_X8_firstToRepair_L6_body {x : Cx} {y : Cy} (hy : Inj y) (h : OkM x y cX8_firstToRepair RX8 3 (some .int) rX8_firstToRepair) (kx1 : Mem → Ans) (hx1 : ∀ M0 : Mem, G x y 70 [] [] M0 (kx1 M0)) (kb : Int32 → Mem → Ans) (hb : ∀ (b1 : Int32), ∀ M0 : Mem, G x y 6 [(0, .ref (y.2.1 141)), (1, .int b1)] [] M0 (kb b1 M0)) (a1 : Int32) (M : Mem) : G x y 6 [(0, .ref (y.2.1 141)), (1, .int a1)] [] M (d_X8_firstToRepair_L6_body kx1 kb a1 M) := by
  unfold d_X8_firstToRepair_L6_body
  refine G_iload_n (pc := 6) h.1 dX8_firstToRepair_6 rfl 1 rfl ?_
  refine G_aload_n (pc := 7) h.1 dX8_firstToRepair_7 rfl 0 rfl ?_
  refine G_get (pc := 8) (v := .ref (y.2.1 (cI 0 0))) h.1 fl_X8_43 lN141 (eM141 _) rfl dX8_firstToRepair_8 ?_
  refine G_get (pc := 11) (v := .int (M (cI 0 0) 6)) h.1 fl_X8_294 (ids_c h2_0 0 (by decide)) (eC0 h2_0 _) rfl dX8_firstToRepair_11 ?_
  refine G_icmp_ge (pc := 14) (tgt := 70) h.1 dX8_firstToRepair_14 (by decide) ?_ ?_
  · exact G_sub [] rfl (hx1 M)
  · refine G_aload_n (pc := 17) h.1 dX8_firstToRepair_17 rfl 0 rfl ?_
    refine G_get (pc := 18) (v := .ref (y.2.1 (cI 0 0))) h.1 fl_X8_43 lN141 (eM141 _) rfl dX8_firstToRepair_18 ?_
    refine G_get (pc := 21) (v := .ref (y.2.1 (cI 0 1))) h.1 fl_X8_297 (ids_c h2_0 0 (by decide)) (eC0 h2_0 _) rfl dX8_firstToRepair_21 ?_
    refine G_iload_n (pc := 24) h.1 dX8_firstToRepair_24 rfl 1 rfl ?_
    refine G_iald (pc := 25) h.1 (ids_c h2_0 1 (by decide)) (eC1 h2_0 _) dX8_firstToRepair_25 ?_
    refine G_top (fun v3 => ?_)
    refine G_istore_n (pc := 26) h.1 h.2.1 [(2, .int v3), (0, .ref (y.2.1 141)), (1, .int a1)] dX8_firstToRepair_26 rfl (by decide) rfl ?_
    refine G_aload_n (pc := 27) h.1 dX8_firstToRepair_27 rfl 1 rfl ?_
    refine G_get (pc := 28) (v := .ref (y.2.1 (cI 0 0))) h.1 fl_X8_43 lN141 (eM141 _) rfl dX8_firstToRepair_28 ?_
    refine G_get (pc := 31) (v := .ref (y.2.1 (cI 0 2))) h.1 fl_X8_289 (ids_c h2_0 0 (by decide)) (eC0 h2_0 _) rfl dX8_firstToRepair_31 ?_
    refine G_iload_n (pc := 34) h.1 dX8_firstToRepair_34 rfl 2 rfl ?_
    refine G_iald (pc := 35) h.1 (ids_c h2_0 2 (by decide)) (eC2 h2_0 _) dX8_firstToRepair_35 ?_
    refine G_iconst (pc := 36) (v := (3)) h.1 dX8_firstToRepair_36 (by decide) ?_
    refine G_icmp_ne (pc := 37) (tgt := 64) h.1 dX8_firstToRepair_37 (by decide) ?_ ?_
    · exact G_sub [1, 2] rfl (gd_X8_firstToRepair_B64 hy h kx1 kb a1 hx1 hb M)
    · refine G_aload_n (pc := 40) h.1 dX8_firstToRepair_40 rfl 1 rfl ?_
      refine G_get (pc := 41) (v := .ref (y.2.1 (sI 0 0))) h.1 fl_X8_12 lN141 (eM141 _) rfl dX8_firstToRepair_41 ?_
      refine G_get (pc := 44) (v := .ref (y.2.1 (sI 0 6))) h.1 fl_X8_106 (ids_s h7_0 0 (by decide)) (eS0 h7_0 _) rfl dX8_firstToRepair_44 ?_
      refine G_iload_n (pc := 47) h.1 dX8_firstToRepair_47 rfl 0 rfl ?_
      refine G_callV (pc := 48) (As := [.int v3]) (rest := []) h.1 h.2.2.1 lk_X8_286 (ids_s h7_0 6 (by decide)) (eS6 h7_0 _) rfl rfl (c_X0_stateOf x.1.2.1 y hy 0 h7_0 v3 M) rfl rfl (Nat.le_of_ble_eq_true rfl) ⟨rfl, rfl, Nat.le_of_ble_eq_true rfl, Nat.le_of_ble_eq_true rfl⟩ dX8_firstToRepair_48 (fun r6 M5 => ?_)
      refine G_if_ne (pc := 51) (tgt := 64) h.1 dX8_firstToRepair_51 (by decide) ?_ ?_
      · exact G_sub [1, 2] rfl (gd_X8_firstToRepair_B64 hy h kx1 kb a1 hx1 hb M5)
      · refine G_aload_n (pc := 54) h.1 dX8_firstToRepair_54 rfl 1 rfl ?_
        refine G_iload_n (pc := 55) h.1 dX8_firstToRepair_55 rfl 0 rfl ?_
        refine G_callV (pc := 56) (As := [.int v3]) (rest := []) h.1 h.2.2.1 lk_X8_300 lN141 (eM141 _) rfl rfl (c_X8_wasRepaired x.1.2.1 y hy v3 M5) rfl rfl (Nat.le_of_ble_eq_true rfl) ⟨rfl, rfl, Nat.le_of_ble_eq_true rfl, Nat.le_of_ble_eq_true rfl⟩ dX8_firstToRepair_56 (fun r8 M7 => ?_)
        refine G_if_ne (pc := 59) (tgt := 64) h.1 dX8_firstToRepair_59 (by decide) ?_ ?_
        · exact G_sub [1, 2] rfl (gd_X8_firstToRepair_B64 hy h kx1 kb a1 hx1 hb M7)
        · refine G_iload_n (pc := 62) h.1 dX8_firstToRepair_62 rfl 0 rfl ?_
          exact G_ret (pc := 63) h rfl dX8_firstToRepair_63
set_option maxRecDepth 20000 in
theorem gd_X8_firstToRepair_L6 {x : Cx} {y : Cy} (hy : Inj y) (h : OkM x y cX8_firstToRepair RX8 3 (some .int) rX8_firstToRepair) (kx1 : Mem → Ans) (hx1 : ∀ M0 : Mem, G x y 70 [] [] M0 (kx1 M0)) : ∀ (n : Nat) (a1 : Int32) (M : Mem), G x y 6 [(0, .ref (y.2.1 141)), (1, .int a1)] [] M (d_X8_firstToRepair_L6 kx1 n a1 M) := by
  intro n
  induction n with
  | zero => intro a1 M; exact G_none
  | succ n ih => intro a1 M; exact gd_X8_firstToRepair_L6_body hy h kx1 hx1 _ ih a1 M
set_option maxRecDepth 20000 in
theorem c_X8_firstToRepair (l : Launch) (y : Cy) (hy : Inj y) (M : Mem) : CT l y yX8_firstToRepair cX8_firstToRepair 3 (some .int) rX8_firstToRepair [.ref (y.2.1 141)] M (d_X8_firstToRepair M) := by
  refine CT_of (by decide) hy (Nat.le_of_ble_eq_true rfl) (fun x hxl h => ?_)
  show G x y 0 [(0, .ref (y.2.1 141))] [] M _
  unfold d_X8_firstToRepair
  refine G_aload_n (pc := 0) h.1 dX8_firstToRepair_0 rfl 0 rfl ?_
  refine G_callVv (pc := 1) (As := []) (rest := []) h.1 h.2.2.1 lk_X8_277 lN141 (eM141 _) rfl rfl (c_X8_forecastToEnd x.1.2.1 y hy M) rfl rfl (Nat.le_of_ble_eq_true rfl) ⟨rfl, rfl, Nat.le_of_ble_eq_true rfl, Nat.le_of_ble_eq_true rfl⟩ dX8_firstToRepair_1 (fun r2 M1 => ?_)
  refine G_iconst (pc := 4) (v := (0)) h.1 dX8_firstToRepair_4 (by decide) ?_
  refine G_istore_n (pc := 5) h.1 h.2.1 [(1, .int (0 : Int32)), (0, .ref (y.2.1 141))] dX8_firstToRepair_5 rfl (by decide) rfl ?_
  refine G_sub [1, 0] rfl (gd_X8_firstToRepair_L6 hy h _ (fun M9 => ?_) fuelN (0 : Int32) M1)
  refine G_iconst (pc := 70) (v := (-1)) h.1 dX8_firstToRepair_70 (by decide) ?_
  exact G_ret (pc := 71) h rfl dX8_firstToRepair_71
theorem dX8_moveLaterOrCancel_0 : decode cX8_moveLaterOrCancel 0 = .ok (.aload_n 0, 1) := by decide +kernel
theorem dX8_moveLaterOrCancel_1 : decode cX8_moveLaterOrCancel 1 = .ok (.getfield 12, 3) := by decide +kernel
theorem dX8_moveLaterOrCancel_4 : decode cX8_moveLaterOrCancel 4 = .ok (.getfield 106, 3) := by decide +kernel
theorem dX8_moveLaterOrCancel_7 : decode cX8_moveLaterOrCancel 7 = .ok (.astore_n 2, 1) := by decide +kernel
theorem dX8_moveLaterOrCancel_8 : decode cX8_moveLaterOrCancel 8 = .ok (.aload_n 2, 1) := by decide +kernel
theorem dX8_moveLaterOrCancel_9 : decode cX8_moveLaterOrCancel 9 = .ok (.iload_n 1, 1) := by decide +kernel
theorem dX8_moveLaterOrCancel_10 : decode cX8_moveLaterOrCancel 10 = .ok (.invokevirtual 114, 3) := by decide +kernel
theorem dX8_moveLaterOrCancel_13 : decode cX8_moveLaterOrCancel 13 = .ok (.ifCond .ne 5, 3) := by decide +kernel
theorem dX8_moveLaterOrCancel_16 : decode cX8_moveLaterOrCancel 16 = .ok (.iconst 0, 1) := by decide +kernel
theorem dX8_moveLaterOrCancel_17 : decode cX8_moveLaterOrCancel 17 = .ok (.ireturn, 1) := by decide +kernel
theorem dX8_moveLaterOrCancel_18 : decode cX8_moveLaterOrCancel 18 = .ok (.aload_n 0, 1) := by decide +kernel
theorem dX8_moveLaterOrCancel_19 : decode cX8_moveLaterOrCancel 19 = .ok (.getfield 54, 3) := by decide +kernel
theorem dX8_moveLaterOrCancel_22 : decode cX8_moveLaterOrCancel 22 = .ok (.iload_n 1, 1) := by decide +kernel
theorem dX8_moveLaterOrCancel_23 : decode cX8_moveLaterOrCancel 23 = .ok (.iconst 1, 1) := by decide +kernel
theorem dX8_moveLaterOrCancel_24 : decode cX8_moveLaterOrCancel 24 = .ok (.bastore, 1) := by decide +kernel
theorem dX8_moveLaterOrCancel_25 : decode cX8_moveLaterOrCancel 25 = .ok (.aload_n 0, 1) := by decide +kernel
theorem dX8_moveLaterOrCancel_26 : decode cX8_moveLaterOrCancel 26 = .ok (.getfield 50, 3) := by decide +kernel
theorem dX8_moveLaterOrCancel_29 : decode cX8_moveLaterOrCancel 29 = .ok (.aload_n 0, 1) := by decide +kernel
theorem dX8_moveLaterOrCancel_30 : decode cX8_moveLaterOrCancel 30 = .ok (.getfield 12, 3) := by decide +kernel
theorem dX8_moveLaterOrCancel_33 : decode cX8_moveLaterOrCancel 33 = .ok (.iload_n 1, 1) := by decide +kernel
theorem dX8_moveLaterOrCancel_34 : decode cX8_moveLaterOrCancel 34 = .ok (.aload_n 2, 1) := by decide +kernel
theorem dX8_moveLaterOrCancel_35 : decode cX8_moveLaterOrCancel 35 = .ok (.getfield 131, 3) := by decide +kernel
theorem dX8_moveLaterOrCancel_38 : decode cX8_moveLaterOrCancel 38 = .ok (.iload_n 1, 1) := by decide +kernel
theorem dX8_moveLaterOrCancel_39 : decode cX8_moveLaterOrCancel 39 = .ok (.iaload, 1) := by decide +kernel
theorem dX8_moveLaterOrCancel_40 : decode cX8_moveLaterOrCancel 40 = .ok (.aload_n 2, 1) := by decide +kernel
theorem dX8_moveLaterOrCancel_41 : decode cX8_moveLaterOrCancel 41 = .ok (.getfield 134, 3) := by decide +kernel
theorem dX8_moveLaterOrCancel_44 : decode cX8_moveLaterOrCancel 44 = .ok (.iload_n 1, 1) := by decide +kernel
theorem dX8_moveLaterOrCancel_45 : decode cX8_moveLaterOrCancel 45 = .ok (.iaload, 1) := by decide +kernel
theorem dX8_moveLaterOrCancel_46 : decode cX8_moveLaterOrCancel 46 = .ok (.aload_n 2, 1) := by decide +kernel
theorem dX8_moveLaterOrCancel_47 : decode cX8_moveLaterOrCancel 47 = .ok (.getfield 145, 3) := by decide +kernel
theorem dX8_moveLaterOrCancel_50 : decode cX8_moveLaterOrCancel 50 = .ok (.iload_n 1, 1) := by decide +kernel
theorem dX8_moveLaterOrCancel_51 : decode cX8_moveLaterOrCancel 51 = .ok (.iaload, 1) := by decide +kernel
theorem dX8_moveLaterOrCancel_52 : decode cX8_moveLaterOrCancel 52 = .ok (.iconst 1, 1) := by decide +kernel
theorem dX8_moveLaterOrCancel_53 : decode cX8_moveLaterOrCancel 53 = .ok (.iadd, 1) := by decide +kernel
theorem dX8_moveLaterOrCancel_54 : decode cX8_moveLaterOrCancel 54 = .ok (.aload_n 2, 1) := by decide +kernel
theorem dX8_moveLaterOrCancel_55 : decode cX8_moveLaterOrCancel 55 = .ok (.getfield 145, 3) := by decide +kernel
theorem dX8_moveLaterOrCancel_58 : decode cX8_moveLaterOrCancel 58 = .ok (.iload_n 1, 1) := by decide +kernel
theorem dX8_moveLaterOrCancel_59 : decode cX8_moveLaterOrCancel 59 = .ok (.iaload, 1) := by decide +kernel
theorem dX8_moveLaterOrCancel_60 : decode cX8_moveLaterOrCancel 60 = .ok (.bipush 60, 2) := by decide +kernel
theorem dX8_moveLaterOrCancel_62 : decode cX8_moveLaterOrCancel 62 = .ok (.iadd, 1) := by decide +kernel
theorem dX8_moveLaterOrCancel_63 : decode cX8_moveLaterOrCancel 63 = .ok (.invokevirtual 159, 3) := by decide +kernel
theorem dX8_moveLaterOrCancel_66 : decode cX8_moveLaterOrCancel 66 = .ok (.istore_n 3, 1) := by decide +kernel
theorem dX8_moveLaterOrCancel_67 : decode cX8_moveLaterOrCancel 67 = .ok (.iload_n 3, 1) := by decide +kernel
theorem dX8_moveLaterOrCancel_68 : decode cX8_moveLaterOrCancel 68 = .ok (.bipush (-5), 2) := by decide +kernel
theorem dX8_moveLaterOrCancel_70 : decode cX8_moveLaterOrCancel 70 = .ok (.if_icmp .ne 12, 3) := by decide +kernel
theorem dX8_moveLaterOrCancel_73 : decode cX8_moveLaterOrCancel 73 = .ok (.aload_n 2, 1) := by decide +kernel
theorem dX8_moveLaterOrCancel_74 : decode cX8_moveLaterOrCancel 74 = .ok (.getfield 121, 3) := by decide +kernel
theorem dX8_moveLaterOrCancel_77 : decode cX8_moveLaterOrCancel 77 = .ok (.iload_n 1, 1) := by decide +kernel
theorem dX8_moveLaterOrCancel_78 : decode cX8_moveLaterOrCancel 78 = .ok (.iconst 4, 1) := by decide +kernel
theorem dX8_moveLaterOrCancel_79 : decode cX8_moveLaterOrCancel 79 = .ok (.iastore, 1) := by decide +kernel
theorem dX8_moveLaterOrCancel_80 : decode cX8_moveLaterOrCancel 80 = .ok (.iconst 0, 1) := by decide +kernel
theorem dX8_moveLaterOrCancel_81 : decode cX8_moveLaterOrCancel 81 = .ok (.ireturn, 1) := by decide +kernel
theorem dX8_moveLaterOrCancel_82 : decode cX8_moveLaterOrCancel 82 = .ok (.aload_n 2, 1) := by decide +kernel
theorem dX8_moveLaterOrCancel_83 : decode cX8_moveLaterOrCancel 83 = .ok (.getfield 145, 3) := by decide +kernel
theorem dX8_moveLaterOrCancel_86 : decode cX8_moveLaterOrCancel 86 = .ok (.iload_n 1, 1) := by decide +kernel
theorem dX8_moveLaterOrCancel_87 : decode cX8_moveLaterOrCancel 87 = .ok (.iload_n 3, 1) := by decide +kernel
theorem dX8_moveLaterOrCancel_88 : decode cX8_moveLaterOrCancel 88 = .ok (.iastore, 1) := by decide +kernel
theorem dX8_moveLaterOrCancel_89 : decode cX8_moveLaterOrCancel 89 = .ok (.iconst 1, 1) := by decide +kernel
theorem dX8_moveLaterOrCancel_90 : decode cX8_moveLaterOrCancel 90 = .ok (.ireturn, 1) := by decide +kernel
abbrev rX8_moveLaterOrCancel : Room := { frames := 5, cells := 0, slots := 0, locals := 126 }
set_option maxRecDepth 20000 in
theorem c_X8_moveLaterOrCancel (l : Launch) (y : Cy) (hy : Inj y) (p1 : Int32) (M : Mem) : CT l y yX8_moveLaterOrCancel cX8_moveLaterOrCancel 4 (some .boolean) rX8_moveLaterOrCancel [.ref (y.2.1 141), .int p1] M (d_X8_moveLaterOrCancel p1 M) := by
  refine CT_of (by decide) hy (Nat.le_of_ble_eq_true rfl) (fun x hxl h => ?_)
  show G x y 0 [(0, .ref (y.2.1 141)), (1, .int p1)] [] M _
  unfold d_X8_moveLaterOrCancel
  refine G_aload_n (pc := 0) h.1 dX8_moveLaterOrCancel_0 rfl 0 rfl ?_
  refine G_get (pc := 1) (v := .ref (y.2.1 (sI 0 0))) h.1 fl_X8_12 lN141 (eM141 _) rfl dX8_moveLaterOrCancel_1 ?_
  refine G_get (pc := 4) (v := .ref (y.2.1 (sI 0 6))) h.1 fl_X8_106 (ids_s h7_0 0 (by decide)) (eS0 h7_0 _) rfl dX8_moveLaterOrCancel_4 ?_
  refine G_astore_n (pc := 7) h.1 h.2.1 [(2, .ref (y.2.1 (sI 0 6))), (0, .ref (y.2.1 141)), (1, .int p1)] dX8_moveLaterOrCancel_7 rfl (by decide) rfl ?_
  refine G_aload_n (pc := 8) h.1 dX8_moveLaterOrCancel_8 rfl 0 rfl ?_
  refine G_iload_n (pc := 9) h.1 dX8_moveLaterOrCancel_9 rfl 2 rfl ?_
  refine G_callV (pc := 10) (As := [.int p1]) (rest := []) h.1 h.2.2.1 lk_X8_114 (ids_s h7_0 6 (by decide)) (eS6 h7_0 _) rfl rfl (c_X0_has x.1.2.1 y hy 0 h7_0 p1 M) rfl rfl (Nat.le_of_ble_eq_true rfl) ⟨rfl, rfl, Nat.le_of_ble_eq_true rfl, Nat.le_of_ble_eq_true rfl⟩ dX8_moveLaterOrCancel_10 (fun r2 M1 => ?_)
  refine G_if_ne (pc := 13) (tgt := 18) h.1 dX8_moveLaterOrCancel_13 (by decide) ?_ ?_
  · refine G_aload_n (pc := 18) h.1 dX8_moveLaterOrCancel_18 rfl 1 rfl ?_
    refine G_get (pc := 19) (v := .ref (y.2.1 142)) h.1 fl_X8_54 lN141 (eM141 _) rfl dX8_moveLaterOrCancel_19 ?_
    refine G_iload_n (pc := 22) h.1 dX8_moveLaterOrCancel_22 rfl 2 rfl ?_
    refine G_iconst (pc := 23) (v := (1)) h.1 dX8_moveLaterOrCancel_23 (by decide) ?_
    refine G_zast (pc := 24) h.1 lN142 (fun m => eM142 m) dX8_moveLaterOrCancel_24 (fun M3 => ?_)
    refine G_aload_n (pc := 25) h.1 dX8_moveLaterOrCancel_25 rfl 1 rfl ?_
    refine G_get (pc := 26) (v := .ref (y.2.1 132)) h.1 fl_X8_50 lN141 (eM141 _) rfl dX8_moveLaterOrCancel_26 ?_
    refine G_aload_n (pc := 29) h.1 dX8_moveLaterOrCancel_29 rfl 1 rfl ?_
    refine G_get (pc := 30) (v := .ref (y.2.1 (sI 0 0))) h.1 fl_X8_12 lN141 (eM141 _) rfl dX8_moveLaterOrCancel_30 ?_
    refine G_iload_n (pc := 33) h.1 dX8_moveLaterOrCancel_33 rfl 2 rfl ?_
    refine G_aload_n (pc := 34) h.1 dX8_moveLaterOrCancel_34 rfl 0 rfl ?_
    refine G_get (pc := 35) (v := .ref (y.2.1 (sI 0 7))) h.1 fl_X8_131 (ids_s h7_0 6 (by decide)) (eS6 h7_0 _) rfl dX8_moveLaterOrCancel_35 ?_
    refine G_iload_n (pc := 38) h.1 dX8_moveLaterOrCancel_38 rfl 2 rfl ?_
    refine G_iald (pc := 39) h.1 (ids_s h7_0 7 (by decide)) (eS7 h7_0 _) dX8_moveLaterOrCancel_39 ?_
    refine G_aload_n (pc := 40) h.1 dX8_moveLaterOrCancel_40 rfl 0 rfl ?_
    refine G_get (pc := 41) (v := .ref (y.2.1 (sI 0 8))) h.1 fl_X8_134 (ids_s h7_0 6 (by decide)) (eS6 h7_0 _) rfl dX8_moveLaterOrCancel_41 ?_
    refine G_iload_n (pc := 44) h.1 dX8_moveLaterOrCancel_44 rfl 2 rfl ?_
    refine G_iald (pc := 45) h.1 (ids_s h7_0 8 (by decide)) (eS8 h7_0 _) dX8_moveLaterOrCancel_45 ?_
    refine G_aload_n (pc := 46) h.1 dX8_moveLaterOrCancel_46 rfl 0 rfl ?_
    refine G_get (pc := 47) (v := .ref (y.2.1 (sI 0 9))) h.1 fl_X8_145 (ids_s h7_0 6 (by decide)) (eS6 h7_0 _) rfl dX8_moveLaterOrCancel_47 ?_
    refine G_iload_n (pc := 50) h.1 dX8_moveLaterOrCancel_50 rfl 2 rfl ?_
    refine G_iald (pc := 51) h.1 (ids_s h7_0 9 (by decide)) (eS9 h7_0 _) dX8_moveLaterOrCancel_51 ?_
    refine G_iconst (pc := 52) (v := (1)) h.1 dX8_moveLaterOrCancel_52 (by decide) ?_
    refine G_iadd (pc := 53) h.1 dX8_moveLaterOrCancel_53 ?_
    refine G_aload_n (pc := 54) h.1 dX8_moveLaterOrCancel_54 rfl 0 rfl ?_
    refine G_get (pc := 55) (v := .ref (y.2.1 (sI 0 9))) h.1 fl_X8_145 (ids_s h7_0 6 (by decide)) (eS6 h7_0 _) rfl dX8_moveLaterOrCancel_55 ?_
    refine G_iload_n (pc := 58) h.1 dX8_moveLaterOrCancel_58 rfl 2 rfl ?_
    refine G_iald (pc := 59) h.1 (ids_s h7_0 9 (by decide)) (eS9 h7_0 _) dX8_moveLaterOrCancel_59 ?_
    refine G_bipush (pc := 60) (v := (60)) h.1 dX8_moveLaterOrCancel_60 (by decide) ?_
    refine G_iadd (pc := 62) h.1 dX8_moveLaterOrCancel_62 ?_
    refine G_callV (pc := 63) (As := [.ref (y.2.1 (sI 0 0)), .int p1, .int (M3 (sI 0 7) (p1).toNatClampNeg), .int (M3 (sI 0 8) (p1).toNatClampNeg), .int ((M3 (sI 0 9) (p1).toNatClampNeg) + (1 : Int32)), .int ((M3 (sI 0 9) (p1).toNatClampNeg) + (60 : Int32))]) (rest := []) h.1 h.2.2.1 lk_X8_159 lN132 (eM132 _) rfl rfl (c_X3_firstFit x.1.2.1 y hy 0 h7_0 p1 (M3 (sI 0 7) (p1).toNatClampNeg) (M3 (sI 0 8) (p1).toNatClampNeg) ((M3 (sI 0 9) (p1).toNatClampNeg) + (1 : Int32)) ((M3 (sI 0 9) (p1).toNatClampNeg) + (60 : Int32)) M3) rfl rfl (Nat.le_of_ble_eq_true rfl) ⟨rfl, rfl, Nat.le_of_ble_eq_true rfl, Nat.le_of_ble_eq_true rfl⟩ dX8_moveLaterOrCancel_63 (fun r5 M4 => ?_)
    refine G_istore_n (pc := 66) h.1 h.2.1 [(3, .int r5), (2, .ref (y.2.1 (sI 0 6))), (0, .ref (y.2.1 141)), (1, .int p1)] dX8_moveLaterOrCancel_66 rfl (by decide) rfl ?_
    refine G_iload_n (pc := 67) h.1 dX8_moveLaterOrCancel_67 rfl 0 rfl ?_
    refine G_bipush (pc := 68) (v := (-5)) h.1 dX8_moveLaterOrCancel_68 (by decide) ?_
    refine G_icmp_ne (pc := 70) (tgt := 82) h.1 dX8_moveLaterOrCancel_70 (by decide) ?_ ?_
    · refine G_aload_n (pc := 82) h.1 dX8_moveLaterOrCancel_82 rfl 1 rfl ?_
      refine G_get (pc := 83) (v := .ref (y.2.1 (sI 0 9))) h.1 fl_X8_145 (ids_s h7_0 6 (by decide)) (eS6 h7_0 _) rfl dX8_moveLaterOrCancel_83 ?_
      refine G_iload_n (pc := 86) h.1 dX8_moveLaterOrCancel_86 rfl 3 rfl ?_
      refine G_iload_n (pc := 87) h.1 dX8_moveLaterOrCancel_87 rfl 0 rfl ?_
      refine G_iast (pc := 88) h.1 (ids_s h7_0 9 (by decide)) (fun m => eS9 h7_0 m) dX8_moveLaterOrCancel_88 (fun M6 => ?_)
      refine G_iconst (pc := 89) (v := (1)) h.1 dX8_moveLaterOrCancel_89 (by decide) ?_
      exact G_ret (pc := 90) h rfl dX8_moveLaterOrCancel_90
    · refine G_aload_n (pc := 73) h.1 dX8_moveLaterOrCancel_73 rfl 1 rfl ?_
      refine G_get (pc := 74) (v := .ref (y.2.1 (sI 0 10))) h.1 fl_X8_121 (ids_s h7_0 6 (by decide)) (eS6 h7_0 _) rfl dX8_moveLaterOrCancel_74 ?_
      refine G_iload_n (pc := 77) h.1 dX8_moveLaterOrCancel_77 rfl 3 rfl ?_
      refine G_iconst (pc := 78) (v := (4)) h.1 dX8_moveLaterOrCancel_78 (by decide) ?_
      refine G_iast (pc := 79) h.1 (ids_s h7_0 10 (by decide)) (fun m => eS10 h7_0 m) dX8_moveLaterOrCancel_79 (fun M7 => ?_)
      refine G_iconst (pc := 80) (v := (0)) h.1 dX8_moveLaterOrCancel_80 (by decide) ?_
      exact G_ret (pc := 81) h rfl dX8_moveLaterOrCancel_81
  · refine G_iconst (pc := 16) (v := (0)) h.1 dX8_moveLaterOrCancel_16 (by decide) ?_
    exact G_ret (pc := 17) h rfl dX8_moveLaterOrCancel_17
theorem dX8_repair_0 : decode cX8_repair 0 = .ok (.iconst 0, 1) := by decide +kernel
theorem dX8_repair_1 : decode cX8_repair 1 = .ok (.istore_n 1, 1) := by decide +kernel
theorem dX8_repair_2 : decode cX8_repair 2 = .ok (.iload_n 1, 1) := by decide +kernel
theorem dX8_repair_3 : decode cX8_repair 3 = .ok (.bipush 60, 2) := by decide +kernel
theorem dX8_repair_5 : decode cX8_repair 5 = .ok (.if_icmp .ge 16, 3) := by decide +kernel
theorem dX8_repair_8 : decode cX8_repair 8 = .ok (.aload_n 0, 1) := by decide +kernel
theorem dX8_repair_9 : decode cX8_repair 9 = .ok (.getfield 54, 3) := by decide +kernel
theorem dX8_repair_12 : decode cX8_repair 12 = .ok (.iload_n 1, 1) := by decide +kernel
theorem dX8_repair_13 : decode cX8_repair 13 = .ok (.iconst 0, 1) := by decide +kernel
theorem dX8_repair_14 : decode cX8_repair 14 = .ok (.bastore, 1) := by decide +kernel
theorem dX8_repair_15 : decode cX8_repair 15 = .ok (.iinc 1 1, 3) := by decide +kernel
theorem dX8_repair_18 : decode cX8_repair 18 = .ok (.goto (-16), 3) := by decide +kernel
theorem dX8_repair_21 : decode cX8_repair 21 = .ok (.aload_n 0, 1) := by decide +kernel
theorem dX8_repair_22 : decode cX8_repair 22 = .ok (.invokevirtual 148, 3) := by decide +kernel
theorem dX8_repair_25 : decode cX8_repair 25 = .ok (.istore_n 1, 1) := by decide +kernel
theorem dX8_repair_26 : decode cX8_repair 26 = .ok (.iload_n 1, 1) := by decide +kernel
theorem dX8_repair_27 : decode cX8_repair 27 = .ok (.iconst (-1), 1) := by decide +kernel
theorem dX8_repair_28 : decode cX8_repair 28 = .ok (.if_icmp .ne 6, 3) := by decide +kernel
theorem dX8_repair_31 : decode cX8_repair 31 = .ok (.bipush (-5), 2) := by decide +kernel
theorem dX8_repair_33 : decode cX8_repair 33 = .ok (.ireturn, 1) := by decide +kernel
theorem dX8_repair_34 : decode cX8_repair 34 = .ok (.aload_n 0, 1) := by decide +kernel
theorem dX8_repair_35 : decode cX8_repair 35 = .ok (.getfield 29, 3) := by decide +kernel
theorem dX8_repair_38 : decode cX8_repair 38 = .ok (.aload_n 0, 1) := by decide +kernel
theorem dX8_repair_39 : decode cX8_repair 39 = .ok (.getfield 12, 3) := by decide +kernel
theorem dX8_repair_42 : decode cX8_repair 42 = .ok (.invokevirtual 72, 3) := by decide +kernel
theorem dX8_repair_45 : decode cX8_repair 45 = .ok (.iconst 0, 1) := by decide +kernel
theorem dX8_repair_46 : decode cX8_repair 46 = .ok (.istore_n 2, 1) := by decide +kernel
theorem dX8_repair_47 : decode cX8_repair 47 = .ok (.iconst 0, 1) := by decide +kernel
theorem dX8_repair_48 : decode cX8_repair 48 = .ok (.istore_n 3, 1) := by decide +kernel
theorem dX8_repair_49 : decode cX8_repair 49 = .ok (.iload_n 3, 1) := by decide +kernel
theorem dX8_repair_50 : decode cX8_repair 50 = .ok (.bipush 60, 2) := by decide +kernel
theorem dX8_repair_52 : decode cX8_repair 52 = .ok (.if_icmp .ge 30, 3) := by decide +kernel
theorem dX8_repair_55 : decode cX8_repair 55 = .ok (.iload_n 1, 1) := by decide +kernel
theorem dX8_repair_56 : decode cX8_repair 56 = .ok (.iconst (-1), 1) := by decide +kernel
theorem dX8_repair_57 : decode cX8_repair 57 = .ok (.if_icmp .eq 25, 3) := by decide +kernel
theorem dX8_repair_60 : decode cX8_repair 60 = .ok (.aload_n 0, 1) := by decide +kernel
theorem dX8_repair_61 : decode cX8_repair 61 = .ok (.iload_n 1, 1) := by decide +kernel
theorem dX8_repair_62 : decode cX8_repair 62 = .ok (.invokevirtual 151, 3) := by decide +kernel
theorem dX8_repair_65 : decode cX8_repair 65 = .ok (.ifCond .eq 6, 3) := by decide +kernel
theorem dX8_repair_68 : decode cX8_repair 68 = .ok (.iinc 2 1, 3) := by decide +kernel
theorem dX8_repair_71 : decode cX8_repair 71 = .ok (.aload_n 0, 1) := by decide +kernel
theorem dX8_repair_72 : decode cX8_repair 72 = .ok (.invokevirtual 148, 3) := by decide +kernel
theorem dX8_repair_75 : decode cX8_repair 75 = .ok (.istore_n 1, 1) := by decide +kernel
theorem dX8_repair_76 : decode cX8_repair 76 = .ok (.iinc 3 1, 3) := by decide +kernel
theorem dX8_repair_79 : decode cX8_repair 79 = .ok (.goto (-30), 3) := by decide +kernel
theorem dX8_repair_82 : decode cX8_repair 82 = .ok (.iload_n 2, 1) := by decide +kernel
theorem dX8_repair_83 : decode cX8_repair 83 = .ok (.ireturn, 1) := by decide +kernel
abbrev rX8_repair : Room := { frames := 6, cells := 0, slots := 0, locals := 149 }
set_option maxRecDepth 20000 in
theorem gd_X8_repair_L2_body {x : Cx} {y : Cy} (hy : Inj y) (h : OkM x y cX8_repair RX8 4 (some .int) rX8_repair) (kx1 : Mem → Ans) (hx1 : ∀ M0 : Mem, G x y 21 [(0, .ref (y.2.1 141))] [] M0 (kx1 M0)) (kb : Int32 → Mem → Ans) (hb : ∀ (b1 : Int32), ∀ M0 : Mem, G x y 2 [(0, .ref (y.2.1 141)), (1, .int b1)] [] M0 (kb b1 M0)) (a1 : Int32) (M : Mem) : G x y 2 [(0, .ref (y.2.1 141)), (1, .int a1)] [] M (d_X8_repair_L2_body kx1 kb a1 M) := by
  unfold d_X8_repair_L2_body
  refine G_iload_n (pc := 2) h.1 dX8_repair_2 rfl 1 rfl ?_
  refine G_bipush (pc := 3) (v := (60)) h.1 dX8_repair_3 (by decide) ?_
  refine G_icmp_ge (pc := 5) (tgt := 21) h.1 dX8_repair_5 (by decide) ?_ ?_
  · exact G_sub [0] rfl (hx1 M)
  · refine G_aload_n (pc := 8) h.1 dX8_repair_8 rfl 0 rfl ?_
    refine G_get (pc := 9) (v := .ref (y.2.1 142)) h.1 fl_X8_54 lN141 (eM141 _) rfl dX8_repair_9 ?_
    refine G_iload_n (pc := 12) h.1 dX8_repair_12 rfl 1 rfl ?_
    refine G_iconst (pc := 13) (v := (0)) h.1 dX8_repair_13 (by decide) ?_
    refine G_zast (pc := 14) h.1 lN142 (fun m => eM142 m) dX8_repair_14 (fun M1 => ?_)
    refine G_iinc (pc := 15) (v := a1 + (1)) h.1 h.2.1 (fun v2 => [(1, .int v2), (0, .ref (y.2.1 141))]) dX8_repair_15 (by decide) 1 rfl rfl (fun _ => rfl) (fun v2 => ?_)
    refine G_goto (pc := 18) (tgt := 2) h.1 dX8_repair_18 (by decide) ?_
    exact G_sub [1, 0] rfl (hb v2 M1)
set_option maxRecDepth 20000 in
theorem gd_X8_repair_L2 {x : Cx} {y : Cy} (hy : Inj y) (h : OkM x y cX8_repair RX8 4 (some .int) rX8_repair) (kx1 : Mem → Ans) (hx1 : ∀ M0 : Mem, G x y 21 [(0, .ref (y.2.1 141))] [] M0 (kx1 M0)) : ∀ (n : Nat) (a1 : Int32) (M : Mem), G x y 2 [(0, .ref (y.2.1 141)), (1, .int a1)] [] M (d_X8_repair_L2 kx1 n a1 M) := by
  intro n
  induction n with
  | zero => intro a1 M; exact G_none
  | succ n ih => intro a1 M; exact gd_X8_repair_L2_body hy h kx1 hx1 _ ih a1 M
set_option maxRecDepth 20000 in
theorem gd_X8_repair_B71 {x : Cx} {y : Cy} (hy : Inj y) (h : OkM x y cX8_repair RX8 4 (some .int) rX8_repair) (kx1 : Int32 → Mem → Ans) (kb : Int32 → Int32 → Int32 → Mem → Ans) (a2 : Int32) (a3 : Int32) (hx1 : ∀ (b2 : Int32), ∀ M0 : Mem, G x y 82 [(2, .int b2)] [] M0 (kx1 b2 M0)) (hb : ∀ (b1 b2 b3 : Int32), ∀ M0 : Mem, G x y 49 [(0, .ref (y.2.1 141)), (1, .int b1), (2, .int b2), (3, .int b3)] [] M0 (kb b1 b2 b3 M0)) (M : Mem) : G x y 71 [(0, .ref (y.2.1 141)), (2, .int a2), (3, .int a3)] [] M (d_X8_repair_B71 kx1 kb a2 a3 M) := by
  unfold d_X8_repair_B71
  refine G_aload_n (pc := 71) h.1 dX8_repair_71 rfl 0 rfl ?_
  refine G_callV (pc := 72) (As := []) (rest := []) h.1 h.2.2.1 lk_X8_148 lN141 (eM141 _) rfl rfl (c_X8_firstToRepair x.1.2.1 y hy M) rfl rfl (Nat.le_of_ble_eq_true rfl) ⟨rfl, rfl, Nat.le_of_ble_eq_true rfl, Nat.le_of_ble_eq_true rfl⟩ dX8_repair_72 (fun r11 M10 => ?_)
  refine G_istore_n (pc := 75) h.1 h.2.1 [(1, .int r11), (0, .ref (y.2.1 141)), (2, .int a2), (3, .int a3)] dX8_repair_75 rfl (by decide) rfl ?_
  refine G_iinc (pc := 76) (v := a3 + (1)) h.1 h.2.1 (fun v12 => [(3, .int v12), (1, .int r11), (0, .ref (y.2.1 141)), (2, .int a2)]) dX8_repair_76 (by decide) 3 rfl rfl (fun _ => rfl) (fun v12 => ?_)
  refine G_goto (pc := 79) (tgt := 49) h.1 dX8_repair_79 (by decide) ?_
  exact G_sub [2, 1, 3, 0] rfl (hb r11 a2 v12 M10)
set_option maxRecDepth 20000 in
theorem gd_X8_repair_L49_body {x : Cx} {y : Cy} (hy : Inj y) (h : OkM x y cX8_repair RX8 4 (some .int) rX8_repair) (kx1 : Int32 → Mem → Ans) (hx1 : ∀ (b2 : Int32), ∀ M0 : Mem, G x y 82 [(2, .int b2)] [] M0 (kx1 b2 M0)) (kb : Int32 → Int32 → Int32 → Mem → Ans) (hb : ∀ (b1 b2 b3 : Int32), ∀ M0 : Mem, G x y 49 [(0, .ref (y.2.1 141)), (1, .int b1), (2, .int b2), (3, .int b3)] [] M0 (kb b1 b2 b3 M0)) (a1 : Int32) (a2 : Int32) (a3 : Int32) (M : Mem) : G x y 49 [(0, .ref (y.2.1 141)), (1, .int a1), (2, .int a2), (3, .int a3)] [] M (d_X8_repair_L49_body kx1 kb a1 a2 a3 M) := by
  unfold d_X8_repair_L49_body
  refine G_iload_n (pc := 49) h.1 dX8_repair_49 rfl 3 rfl ?_
  refine G_bipush (pc := 50) (v := (60)) h.1 dX8_repair_50 (by decide) ?_
  refine G_icmp_ge (pc := 52) (tgt := 82) h.1 dX8_repair_52 (by decide) ?_ ?_
  · exact G_sub [2] rfl (hx1 a2 M)
  · refine G_iload_n (pc := 55) h.1 dX8_repair_55 rfl 1 rfl ?_
    refine G_iconst (pc := 56) (v := (-1)) h.1 dX8_repair_56 (by decide) ?_
    refine G_icmp_eq (pc := 57) (tgt := 82) h.1 dX8_repair_57 (by decide) ?_ ?_
    · exact G_sub [2] rfl (hx1 a2 M)
    · refine G_aload_n (pc := 60) h.1 dX8_repair_60 rfl 0 rfl ?_
      refine G_iload_n (pc := 61) h.1 dX8_repair_61 rfl 1 rfl ?_
      refine G_callV (pc := 62) (As := [.int a1]) (rest := []) h.1 h.2.2.1 lk_X8_151 lN141 (eM141 _) rfl rfl (c_X8_moveLaterOrCancel x.1.2.1 y hy a1 M) rfl rfl (Nat.le_of_ble_eq_true rfl) ⟨rfl, rfl, Nat.le_of_ble_eq_true rfl, Nat.le_of_ble_eq_true rfl⟩ dX8_repair_62 (fun r9 M8 => ?_)
      refine G_if_eq (pc := 65) (tgt := 71) h.1 dX8_repair_65 (by decide) ?_ ?_
      · exact G_sub [0, 2, 3] rfl (gd_X8_repair_B71 hy h kx1 kb a2 a3 hx1 hb M8)
      · refine G_iinc (pc := 68) (v := a2 + (1)) h.1 h.2.1 (fun v13 => [(2, .int v13), (0, .ref (y.2.1 141)), (1, .int a1), (3, .int a3)]) dX8_repair_68 (by decide) 2 rfl rfl (fun _ => rfl) (fun v13 => ?_)
        exact G_sub [1, 0, 3] rfl (gd_X8_repair_B71 hy h kx1 kb v13 a3 hx1 hb M8)
set_option maxRecDepth 20000 in
theorem gd_X8_repair_L49 {x : Cx} {y : Cy} (hy : Inj y) (h : OkM x y cX8_repair RX8 4 (some .int) rX8_repair) (kx1 : Int32 → Mem → Ans) (hx1 : ∀ (b2 : Int32), ∀ M0 : Mem, G x y 82 [(2, .int b2)] [] M0 (kx1 b2 M0)) : ∀ (n : Nat) (a1 : Int32) (a2 : Int32) (a3 : Int32) (M : Mem), G x y 49 [(0, .ref (y.2.1 141)), (1, .int a1), (2, .int a2), (3, .int a3)] [] M (d_X8_repair_L49 kx1 n a1 a2 a3 M) := by
  intro n
  induction n with
  | zero => intro a1 a2 a3 M; exact G_none
  | succ n ih => intro a1 a2 a3 M; exact gd_X8_repair_L49_body hy h kx1 hx1 _ ih a1 a2 a3 M
set_option maxRecDepth 20000 in
theorem c_X8_repair (l : Launch) (y : Cy) (hy : Inj y) (M : Mem) : CT l y yX8_repair cX8_repair 4 (some .int) rX8_repair [.ref (y.2.1 141)] M (d_X8_repair M) := by
  refine CT_of (by decide) hy (Nat.le_of_ble_eq_true rfl) (fun x hxl h => ?_)
  show G x y 0 [(0, .ref (y.2.1 141))] [] M _
  unfold d_X8_repair
  refine G_iconst (pc := 0) (v := (0)) h.1 dX8_repair_0 (by decide) ?_
  refine G_istore_n (pc := 1) h.1 h.2.1 [(1, .int (0 : Int32)), (0, .ref (y.2.1 141))] dX8_repair_1 rfl (by decide) rfl ?_
  refine G_sub [1, 0] rfl (gd_X8_repair_L2 hy h _ (fun M3 => ?_) fuelN (0 : Int32) M)
  refine G_aload_n (pc := 21) h.1 dX8_repair_21 rfl 0 rfl ?_
  refine G_callV (pc := 22) (As := []) (rest := []) h.1 h.2.2.1 lk_X8_148 lN141 (eM141 _) rfl rfl (c_X8_firstToRepair x.1.2.1 y hy M3) rfl rfl (Nat.le_of_ble_eq_true rfl) ⟨rfl, rfl, Nat.le_of_ble_eq_true rfl, Nat.le_of_ble_eq_true rfl⟩ dX8_repair_22 (fun r5 M4 => ?_)
  refine G_istore_n (pc := 25) h.1 h.2.1 [(1, .int r5), (0, .ref (y.2.1 141))] dX8_repair_25 rfl (by decide) rfl ?_
  refine G_iload_n (pc := 26) h.1 dX8_repair_26 rfl 0 rfl ?_
  refine G_iconst (pc := 27) (v := (-1)) h.1 dX8_repair_27 (by decide) ?_
  refine G_icmp_ne (pc := 28) (tgt := 34) h.1 dX8_repair_28 (by decide) ?_ ?_
  · refine G_aload_n (pc := 34) h.1 dX8_repair_34 rfl 1 rfl ?_
    refine G_get (pc := 35) (v := .ref (y.2.1 134)) h.1 fl_X8_29 lN141 (eM141 _) rfl dX8_repair_35 ?_
    refine G_aload_n (pc := 38) h.1 dX8_repair_38 rfl 1 rfl ?_
    refine G_get (pc := 39) (v := .ref (y.2.1 (sI 0 0))) h.1 fl_X8_12 lN141 (eM141 _) rfl dX8_repair_39 ?_
    refine G_callVv (pc := 42) (As := [.ref (y.2.1 (sI 0 0))]) (rest := []) h.1 h.2.2.1 lk_X8_72 lN134 (eM134 _) rfl rfl (c_X2_push x.1.2.1 y hy 0 h7_0 M4) rfl rfl (Nat.le_of_ble_eq_true rfl) ⟨rfl, rfl, Nat.le_of_ble_eq_true rfl, Nat.le_of_ble_eq_true rfl⟩ dX8_repair_42 (fun r7 M6 => ?_)
    refine G_iconst (pc := 45) (v := (0)) h.1 dX8_repair_45 (by decide) ?_
    refine G_istore_n (pc := 46) h.1 h.2.1 [(2, .int (0 : Int32)), (1, .int r5), (0, .ref (y.2.1 141))] dX8_repair_46 rfl (by decide) rfl ?_
    refine G_iconst (pc := 47) (v := (0)) h.1 dX8_repair_47 (by decide) ?_
    refine G_istore_n (pc := 48) h.1 h.2.1 [(3, .int (0 : Int32)), (2, .int (0 : Int32)), (1, .int r5), (0, .ref (y.2.1 141))] dX8_repair_48 rfl (by decide) rfl ?_
    refine G_sub [3, 2, 1, 0] rfl (gd_X8_repair_L49 hy h _ (fun v14 M15 => ?_) fuelN r5 (0 : Int32) (0 : Int32) M6)
    refine G_iload_n (pc := 82) h.1 dX8_repair_82 rfl 0 rfl ?_
    exact G_ret (pc := 83) h rfl dX8_repair_83
  · refine G_bipush (pc := 31) (v := (-5)) h.1 dX8_repair_31 (by decide) ?_
    exact G_ret (pc := 33) h rfl dX8_repair_33
