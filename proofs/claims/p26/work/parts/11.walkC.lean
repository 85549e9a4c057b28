theorem dX7_copyFrom_0 : decode cX7_copyFrom 0 = .ok (.aload_n 0, 1) := by decide +kernel
theorem dX7_copyFrom_1 : decode cX7_copyFrom 1 = .ok (.aload_n 1, 1) := by decide +kernel
theorem dX7_copyFrom_2 : decode cX7_copyFrom 2 = .ok (.getfield 21, 3) := by decide +kernel
theorem dX7_copyFrom_5 : decode cX7_copyFrom 5 = .ok (.putfield 21, 3) := by decide +kernel
theorem dX7_copyFrom_8 : decode cX7_copyFrom 8 = .ok (.aload_n 1, 1) := by decide +kernel
theorem dX7_copyFrom_9 : decode cX7_copyFrom 9 = .ok (.getfield 9, 3) := by decide +kernel
theorem dX7_copyFrom_12 : decode cX7_copyFrom 12 = .ok (.iconst 0, 1) := by decide +kernel
theorem dX7_copyFrom_13 : decode cX7_copyFrom 13 = .ok (.aload_n 0, 1) := by decide +kernel
theorem dX7_copyFrom_14 : decode cX7_copyFrom 14 = .ok (.getfield 9, 3) := by decide +kernel
theorem dX7_copyFrom_17 : decode cX7_copyFrom 17 = .ok (.iconst 0, 1) := by decide +kernel
theorem dX7_copyFrom_18 : decode cX7_copyFrom 18 = .ok (.bipush 8, 2) := by decide +kernel
theorem dX7_copyFrom_20 : decode cX7_copyFrom 20 = .ok (.invokestatic 33, 3) := by decide +kernel
theorem dX7_copyFrom_23 : decode cX7_copyFrom 23 = .ok (.aload_n 1, 1) := by decide +kernel
theorem dX7_copyFrom_24 : decode cX7_copyFrom 24 = .ok (.getfield 15, 3) := by decide +kernel
theorem dX7_copyFrom_27 : decode cX7_copyFrom 27 = .ok (.iconst 0, 1) := by decide +kernel
theorem dX7_copyFrom_28 : decode cX7_copyFrom 28 = .ok (.aload_n 0, 1) := by decide +kernel
theorem dX7_copyFrom_29 : decode cX7_copyFrom 29 = .ok (.getfield 15, 3) := by decide +kernel
theorem dX7_copyFrom_32 : decode cX7_copyFrom 32 = .ok (.iconst 0, 1) := by decide +kernel
theorem dX7_copyFrom_33 : decode cX7_copyFrom 33 = .ok (.bipush 8, 2) := by decide +kernel
theorem dX7_copyFrom_35 : decode cX7_copyFrom 35 = .ok (.invokestatic 33, 3) := by decide +kernel
theorem dX7_copyFrom_38 : decode cX7_copyFrom 38 = .ok (.aload_n 1, 1) := by decide +kernel
theorem dX7_copyFrom_39 : decode cX7_copyFrom 39 = .ok (.getfield 18, 3) := by decide +kernel
theorem dX7_copyFrom_42 : decode cX7_copyFrom 42 = .ok (.iconst 0, 1) := by decide +kernel
theorem dX7_copyFrom_43 : decode cX7_copyFrom 43 = .ok (.aload_n 0, 1) := by decide +kernel
theorem dX7_copyFrom_44 : decode cX7_copyFrom 44 = .ok (.getfield 18, 3) := by decide +kernel
theorem dX7_copyFrom_47 : decode cX7_copyFrom 47 = .ok (.iconst 0, 1) := by decide +kernel
theorem dX7_copyFrom_48 : decode cX7_copyFrom 48 = .ok (.bipush 8, 2) := by decide +kernel
theorem dX7_copyFrom_50 : decode cX7_copyFrom 50 = .ok (.invokestatic 33, 3) := by decide +kernel
theorem dX7_copyFrom_53 : decode cX7_copyFrom 53 = .ok (.return_, 1) := by decide +kernel
abbrev rX7_copyFrom : Room := { frames := 1, cells := 0, slots := 0, locals := 18 }
set_option maxRecDepth 20000 in
theorem c_X7_copyFrom (l : Launch) (y : Cy) (hy : Inj y) (q0 : Nat) (q1 : Nat) (hq0 : q0 < 7) (hq1 : q1 < 7) (M : Mem) : CT l y yX7_copyFrom cX7_copyFrom 2 none rX7_copyFrom [.ref (y.2.1 (sI q0 12)), .ref (y.2.1 (sI q1 12))] M (d_X7_copyFrom q0 q1 M) := by
  refine CT_of (by decide) hy (Nat.le_of_ble_eq_true rfl) (fun x hxl h => ?_)
  show G x y 0 [(0, .ref (y.2.1 (sI q0 12))), (1, .ref (y.2.1 (sI q1 12)))] [] M _
  unfold d_X7_copyFrom
  refine G_aload_n (pc := 0) h.1 dX7_copyFrom_0 rfl 0 rfl ?_
  refine G_aload_n (pc := 1) h.1 dX7_copyFrom_1 rfl 1 rfl ?_
  refine G_get (pc := 2) (v := .int (M (sI q1 12) 0)) h.1 fl_X7_21 (ids_s hq1 12 (by decide)) (eS12 hq1 _) rfl dX7_copyFrom_2 ?_
  refine G_put (pc := 5) h.1 fp_X7_21 (ids_s hq0 12 (by decide)) (fun m => eS12 hq0 m) (fun _ => rfl) (fun _ => Nat.le_of_ble_eq_true rfl) rfl rfl dX7_copyFrom_5 (fun M1 => ?_)
  refine G_aload_n (pc := 8) h.1 dX7_copyFrom_8 rfl 1 rfl ?_
  refine G_get (pc := 9) (v := .ref (y.2.1 (sI q1 13))) h.1 fl_X7_9 (ids_s hq1 12 (by decide)) (eS12 hq1 _) rfl dX7_copyFrom_9 ?_
  refine G_iconst (pc := 12) (v := (0)) h.1 dX7_copyFrom_12 (by decide) ?_
  refine G_aload_n (pc := 13) h.1 dX7_copyFrom_13 rfl 0 rfl ?_
  refine G_get (pc := 14) (v := .ref (y.2.1 (sI q0 13))) h.1 fl_X7_9 (ids_s hq0 12 (by decide)) (eS12 hq0 _) rfl dX7_copyFrom_14 ?_
  refine G_iconst (pc := 17) (v := (0)) h.1 dX7_copyFrom_17 (by decide) ?_
  refine G_bipush (pc := 18) (v := (8)) h.1 dX7_copyFrom_18 (by decide) ?_
  refine G_copy (pc := 20) h.1 h.2.2.1 mc_X7_33 (ids_s hq1 13 (by decide)) (ids_s hq0 13 (by decide)) (eS13 hq1 _) (fun m => eS13 hq0 m) (by decide) (by decide) dX7_copyFrom_20 (Nat.le_of_ble_eq_true rfl) (Nat.le_of_ble_eq_true rfl) (fun M2 => ?_)
  refine G_aload_n (pc := 23) h.1 dX7_copyFrom_23 rfl 1 rfl ?_
  refine G_get (pc := 24) (v := .ref (y.2.1 (sI q1 14))) h.1 fl_X7_15 (ids_s hq1 12 (by decide)) (eS12 hq1 _) rfl dX7_copyFrom_24 ?_
  refine G_iconst (pc := 27) (v := (0)) h.1 dX7_copyFrom_27 (by decide) ?_
  refine G_aload_n (pc := 28) h.1 dX7_copyFrom_28 rfl 0 rfl ?_
  refine G_get (pc := 29) (v := .ref (y.2.1 (sI q0 14))) h.1 fl_X7_15 (ids_s hq0 12 (by decide)) (eS12 hq0 _) rfl dX7_copyFrom_29 ?_
  refine G_iconst (pc := 32) (v := (0)) h.1 dX7_copyFrom_32 (by decide) ?_
  refine G_bipush (pc := 33) (v := (8)) h.1 dX7_copyFrom_33 (by decide) ?_
  refine G_copy (pc := 35) h.1 h.2.2.1 mc_X7_33 (ids_s hq1 14 (by decide)) (ids_s hq0 14 (by decide)) (eS14 hq1 _) (fun m => eS14 hq0 m) (by decide) (by decide) dX7_copyFrom_35 (Nat.le_of_ble_eq_true rfl) (Nat.le_of_ble_eq_true rfl) (fun M3 => ?_)
  refine G_aload_n (pc := 38) h.1 dX7_copyFrom_38 rfl 1 rfl ?_
  refine G_get (pc := 39) (v := .ref (y.2.1 (sI q1 15))) h.1 fl_X7_18 (ids_s hq1 12 (by decide)) (eS12 hq1 _) rfl dX7_copyFrom_39 ?_
  refine G_iconst (pc := 42) (v := (0)) h.1 dX7_copyFrom_42 (by decide) ?_
  refine G_aload_n (pc := 43) h.1 dX7_copyFrom_43 rfl 0 rfl ?_
  refine G_get (pc := 44) (v := .ref (y.2.1 (sI q0 15))) h.1 fl_X7_18 (ids_s hq0 12 (by decide)) (eS12 hq0 _) rfl dX7_copyFrom_44 ?_
  refine G_iconst (pc := 47) (v := (0)) h.1 dX7_copyFrom_47 (by decide) ?_
  refine G_bipush (pc := 48) (v := (8)) h.1 dX7_copyFrom_48 (by decide) ?_
  refine G_copy (pc := 50) h.1 h.2.2.1 mc_X7_33 (ids_s hq1 15 (by decide)) (ids_s hq0 15 (by decide)) (eS15 hq1 _) (fun m => eS15 hq0 m) (by decide) (by decide) dX7_copyFrom_50 (Nat.le_of_ble_eq_true rfl) (Nat.le_of_ble_eq_true rfl) (fun M4 => ?_)
  exact G_vret (pc := 53) h dX7_copyFrom_53
theorem dX5_copyFrom_0 : decode cX5_copyFrom 0 = .ok (.aload_n 0, 1) := by decide +kernel
theorem dX5_copyFrom_1 : decode cX5_copyFrom 1 = .ok (.aload_n 1, 1) := by decide +kernel
theorem dX5_copyFrom_2 : decode cX5_copyFrom 2 = .ok (.getfield 42, 3) := by decide +kernel
theorem dX5_copyFrom_5 : decode cX5_copyFrom 5 = .ok (.putfield 42, 3) := by decide +kernel
theorem dX5_copyFrom_8 : decode cX5_copyFrom 8 = .ok (.aload_n 0, 1) := by decide +kernel
theorem dX5_copyFrom_9 : decode cX5_copyFrom 9 = .ok (.aload_n 1, 1) := by decide +kernel
theorem dX5_copyFrom_10 : decode cX5_copyFrom 10 = .ok (.getfield 9, 3) := by decide +kernel
theorem dX5_copyFrom_13 : decode cX5_copyFrom 13 = .ok (.putfield 9, 3) := by decide +kernel
theorem dX5_copyFrom_16 : decode cX5_copyFrom 16 = .ok (.aload_n 0, 1) := by decide +kernel
theorem dX5_copyFrom_17 : decode cX5_copyFrom 17 = .ok (.aload_n 1, 1) := by decide +kernel
theorem dX5_copyFrom_18 : decode cX5_copyFrom 18 = .ok (.getfield 15, 3) := by decide +kernel
theorem dX5_copyFrom_21 : decode cX5_copyFrom 21 = .ok (.putfield 15, 3) := by decide +kernel
theorem dX5_copyFrom_24 : decode cX5_copyFrom 24 = .ok (.aload_n 0, 1) := by decide +kernel
theorem dX5_copyFrom_25 : decode cX5_copyFrom 25 = .ok (.aload_n 1, 1) := by decide +kernel
theorem dX5_copyFrom_26 : decode cX5_copyFrom 26 = .ok (.getfield 18, 3) := by decide +kernel
theorem dX5_copyFrom_29 : decode cX5_copyFrom 29 = .ok (.putfield 18, 3) := by decide +kernel
theorem dX5_copyFrom_32 : decode cX5_copyFrom 32 = .ok (.aload_n 0, 1) := by decide +kernel
theorem dX5_copyFrom_33 : decode cX5_copyFrom 33 = .ok (.aload_n 1, 1) := by decide +kernel
theorem dX5_copyFrom_34 : decode cX5_copyFrom 34 = .ok (.getfield 70, 3) := by decide +kernel
theorem dX5_copyFrom_37 : decode cX5_copyFrom 37 = .ok (.putfield 70, 3) := by decide +kernel
theorem dX5_copyFrom_40 : decode cX5_copyFrom 40 = .ok (.aload_n 0, 1) := by decide +kernel
theorem dX5_copyFrom_41 : decode cX5_copyFrom 41 = .ok (.aload_n 1, 1) := by decide +kernel
theorem dX5_copyFrom_42 : decode cX5_copyFrom 42 = .ok (.getfield 73, 3) := by decide +kernel
theorem dX5_copyFrom_45 : decode cX5_copyFrom 45 = .ok (.putfield 73, 3) := by decide +kernel
theorem dX5_copyFrom_48 : decode cX5_copyFrom 48 = .ok (.aload_n 0, 1) := by decide +kernel
theorem dX5_copyFrom_49 : decode cX5_copyFrom 49 = .ok (.aload_n 1, 1) := by decide +kernel
theorem dX5_copyFrom_50 : decode cX5_copyFrom 50 = .ok (.getfield 76, 3) := by decide +kernel
theorem dX5_copyFrom_53 : decode cX5_copyFrom 53 = .ok (.putfield 76, 3) := by decide +kernel
theorem dX5_copyFrom_56 : decode cX5_copyFrom 56 = .ok (.aload_n 0, 1) := by decide +kernel
theorem dX5_copyFrom_57 : decode cX5_copyFrom 57 = .ok (.getfield 24, 3) := by decide +kernel
theorem dX5_copyFrom_60 : decode cX5_copyFrom 60 = .ok (.aload_n 1, 1) := by decide +kernel
theorem dX5_copyFrom_61 : decode cX5_copyFrom 61 = .ok (.getfield 24, 3) := by decide +kernel
theorem dX5_copyFrom_64 : decode cX5_copyFrom 64 = .ok (.invokevirtual 79, 3) := by decide +kernel
theorem dX5_copyFrom_67 : decode cX5_copyFrom 67 = .ok (.aload_n 0, 1) := by decide +kernel
theorem dX5_copyFrom_68 : decode cX5_copyFrom 68 = .ok (.getfield 31, 3) := by decide +kernel
theorem dX5_copyFrom_71 : decode cX5_copyFrom 71 = .ok (.aload_n 1, 1) := by decide +kernel
theorem dX5_copyFrom_72 : decode cX5_copyFrom 72 = .ok (.getfield 31, 3) := by decide +kernel
theorem dX5_copyFrom_75 : decode cX5_copyFrom 75 = .ok (.invokevirtual 83, 3) := by decide +kernel
theorem dX5_copyFrom_78 : decode cX5_copyFrom 78 = .ok (.aload_n 0, 1) := by decide +kernel
theorem dX5_copyFrom_79 : decode cX5_copyFrom 79 = .ok (.getfield 38, 3) := by decide +kernel
theorem dX5_copyFrom_82 : decode cX5_copyFrom 82 = .ok (.aload_n 1, 1) := by decide +kernel
theorem dX5_copyFrom_83 : decode cX5_copyFrom 83 = .ok (.getfield 38, 3) := by decide +kernel
theorem dX5_copyFrom_86 : decode cX5_copyFrom 86 = .ok (.invokevirtual 86, 3) := by decide +kernel
theorem dX5_copyFrom_89 : decode cX5_copyFrom 89 = .ok (.return_, 1) := by decide +kernel
abbrev rX5_copyFrom : Room := { frames := 2, cells := 0, slots := 0, locals := 39 }
set_option maxRecDepth 20000 in
theorem c_X5_copyFrom (l : Launch) (y : Cy) (hy : Inj y) (q0 : Nat) (q1 : Nat) (hq0 : q0 < 7) (hq1 : q1 < 7) (M : Mem) : CT l y yX5_copyFrom cX5_copyFrom 2 none rX5_copyFrom [.ref (y.2.1 (sI q0 0)), .ref (y.2.1 (sI q1 0))] M (d_X5_copyFrom q0 q1 M) := by
  refine CT_of (by decide) hy (Nat.le_of_ble_eq_true rfl) (fun x hxl h => ?_)
  show G x y 0 [(0, .ref (y.2.1 (sI q0 0))), (1, .ref (y.2.1 (sI q1 0)))] [] M _
  unfold d_X5_copyFrom
  refine G_aload_n (pc := 0) h.1 dX5_copyFrom_0 rfl 0 rfl ?_
  refine G_aload_n (pc := 1) h.1 dX5_copyFrom_1 rfl 1 rfl ?_
  refine G_get (pc := 2) (v := .int (M (sI q1 0) 0)) h.1 fl_X5_42 (ids_s hq1 0 (by decide)) (eS0 hq1 _) rfl dX5_copyFrom_2 ?_
  refine G_put (pc := 5) h.1 fp_X5_42 (ids_s hq0 0 (by decide)) (fun m => eS0 hq0 m) (fun _ => rfl) (fun _ => Nat.le_of_ble_eq_true rfl) rfl rfl dX5_copyFrom_5 (fun M1 => ?_)
  refine G_aload_n (pc := 8) h.1 dX5_copyFrom_8 rfl 0 rfl ?_
  refine G_aload_n (pc := 9) h.1 dX5_copyFrom_9 rfl 1 rfl ?_
  refine G_get (pc := 10) (v := .int (M1 (sI q1 0) 1)) h.1 fl_X5_9 (ids_s hq1 0 (by decide)) (eS0 hq1 _) rfl dX5_copyFrom_10 ?_
  refine G_put (pc := 13) h.1 fp_X5_9 (ids_s hq0 0 (by decide)) (fun m => eS0 hq0 m) (fun _ => rfl) (fun _ => Nat.le_of_ble_eq_true rfl) rfl rfl dX5_copyFrom_13 (fun M2 => ?_)
  refine G_aload_n (pc := 16) h.1 dX5_copyFrom_16 rfl 0 rfl ?_
  refine G_aload_n (pc := 17) h.1 dX5_copyFrom_17 rfl 1 rfl ?_
  refine G_get (pc := 18) (v := .int (M2 (sI q1 0) 2)) h.1 fl_X5_15 (ids_s hq1 0 (by decide)) (eS0 hq1 _) rfl dX5_copyFrom_18 ?_
  refine G_put (pc := 21) h.1 fp_X5_15 (ids_s hq0 0 (by decide)) (fun m => eS0 hq0 m) (fun _ => rfl) (fun _ => Nat.le_of_ble_eq_true rfl) rfl rfl dX5_copyFrom_21 (fun M3 => ?_)
  refine G_aload_n (pc := 24) h.1 dX5_copyFrom_24 rfl 0 rfl ?_
  refine G_aload_n (pc := 25) h.1 dX5_copyFrom_25 rfl 1 rfl ?_
  refine G_get (pc := 26) (v := .int (M3 (sI q1 0) 3)) h.1 fl_X5_18 (ids_s hq1 0 (by decide)) (eS0 hq1 _) rfl dX5_copyFrom_26 ?_
  refine G_put (pc := 29) h.1 fp_X5_18 (ids_s hq0 0 (by decide)) (fun m => eS0 hq0 m) (fun _ => rfl) (fun _ => Nat.le_of_ble_eq_true rfl) rfl rfl dX5_copyFrom_29 (fun M4 => ?_)
  refine G_aload_n (pc := 32) h.1 dX5_copyFrom_32 rfl 0 rfl ?_
  refine G_aload_n (pc := 33) h.1 dX5_copyFrom_33 rfl 1 rfl ?_
  refine G_get (pc := 34) (v := .int (M4 (sI q1 0) 4)) h.1 fl_X5_70 (ids_s hq1 0 (by decide)) (eS0 hq1 _) rfl dX5_copyFrom_34 ?_
  refine G_put (pc := 37) h.1 fp_X5_70 (ids_s hq0 0 (by decide)) (fun m => eS0 hq0 m) (fun _ => rfl) (fun _ => Nat.le_of_ble_eq_true rfl) rfl rfl dX5_copyFrom_37 (fun M5 => ?_)
  refine G_aload_n (pc := 40) h.1 dX5_copyFrom_40 rfl 0 rfl ?_
  refine G_aload_n (pc := 41) h.1 dX5_copyFrom_41 rfl 1 rfl ?_
  refine G_get (pc := 42) (v := .int (M5 (sI q1 0) 5)) h.1 fl_X5_73 (ids_s hq1 0 (by decide)) (eS0 hq1 _) rfl dX5_copyFrom_42 ?_
  refine G_put (pc := 45) h.1 fp_X5_73 (ids_s hq0 0 (by decide)) (fun m => eS0 hq0 m) (fun _ => rfl) (fun _ => Nat.le_of_ble_eq_true rfl) rfl rfl dX5_copyFrom_45 (fun M6 => ?_)
  refine G_aload_n (pc := 48) h.1 dX5_copyFrom_48 rfl 0 rfl ?_
  refine G_aload_n (pc := 49) h.1 dX5_copyFrom_49 rfl 1 rfl ?_
  refine G_get (pc := 50) (v := .int (M6 (sI q1 0) 6)) h.1 fl_X5_76 (ids_s hq1 0 (by decide)) (eS0 hq1 _) rfl dX5_copyFrom_50 ?_
  refine G_put (pc := 53) h.1 fp_X5_76 (ids_s hq0 0 (by decide)) (fun m => eS0 hq0 m) (fun _ => rfl) (fun _ => Nat.le_of_ble_eq_true rfl) rfl rfl dX5_copyFrom_53 (fun M7 => ?_)
  refine G_aload_n (pc := 56) h.1 dX5_copyFrom_56 rfl 0 rfl ?_
  refine G_get (pc := 57) (v := .ref (y.2.1 (sI q0 1))) h.1 fl_X5_24 (ids_s hq0 0 (by decide)) (eS0 hq0 _) rfl dX5_copyFrom_57 ?_
  refine G_aload_n (pc := 60) h.1 dX5_copyFrom_60 rfl 1 rfl ?_
  refine G_get (pc := 61) (v := .ref (y.2.1 (sI q1 1))) h.1 fl_X5_24 (ids_s hq1 0 (by decide)) (eS0 hq1 _) rfl dX5_copyFrom_61 ?_
  refine G_callVv (pc := 64) (As := [.ref (y.2.1 (sI q1 1))]) (rest := []) h.1 h.2.2.1 lk_X5_79 (ids_s hq0 1 (by decide)) (eS1 hq0 _) rfl rfl (c_X4_copyFrom x.1.2.1 y hy q0 q1 hq0 hq1 M7) rfl rfl (Nat.le_of_ble_eq_true rfl) ⟨rfl, rfl, Nat.le_of_ble_eq_true rfl, Nat.le_of_ble_eq_true rfl⟩ dX5_copyFrom_64 (fun r9 M8 => ?_)
  refine G_aload_n (pc := 67) h.1 dX5_copyFrom_67 rfl 0 rfl ?_
  refine G_get (pc := 68) (v := .ref (y.2.1 (sI q0 6))) h.1 fl_X5_31 (ids_s hq0 0 (by decide)) (eS0 hq0 _) rfl dX5_copyFrom_68 ?_
  refine G_aload_n (pc := 71) h.1 dX5_copyFrom_71 rfl 1 rfl ?_
  refine G_get (pc := 72) (v := .ref (y.2.1 (sI q1 6))) h.1 fl_X5_31 (ids_s hq1 0 (by decide)) (eS0 hq1 _) rfl dX5_copyFrom_72 ?_
  refine G_callVv (pc := 75) (As := [.ref (y.2.1 (sI q1 6))]) (rest := []) h.1 h.2.2.1 lk_X5_83 (ids_s hq0 6 (by decide)) (eS6 hq0 _) rfl rfl (c_X0_copyFrom x.1.2.1 y hy q0 q1 hq0 hq1 M8) rfl rfl (Nat.le_of_ble_eq_true rfl) ⟨rfl, rfl, Nat.le_of_ble_eq_true rfl, Nat.le_of_ble_eq_true rfl⟩ dX5_copyFrom_75 (fun r11 M10 => ?_)
  refine G_aload_n (pc := 78) h.1 dX5_copyFrom_78 rfl 0 rfl ?_
  refine G_get (pc := 79) (v := .ref (y.2.1 (sI q0 12))) h.1 fl_X5_38 (ids_s hq0 0 (by decide)) (eS0 hq0 _) rfl dX5_copyFrom_79 ?_
  refine G_aload_n (pc := 82) h.1 dX5_copyFrom_82 rfl 1 rfl ?_
  refine G_get (pc := 83) (v := .ref (y.2.1 (sI q1 12))) h.1 fl_X5_38 (ids_s hq1 0 (by decide)) (eS0 hq1 _) rfl dX5_copyFrom_83 ?_
  refine G_callVv (pc := 86) (As := [.ref (y.2.1 (sI q1 12))]) (rest := []) h.1 h.2.2.1 lk_X5_86 (ids_s hq0 12 (by decide)) (eS12 hq0 _) rfl rfl (c_X7_copyFrom x.1.2.1 y hy q0 q1 hq0 hq1 M10) rfl rfl (Nat.le_of_ble_eq_true rfl) ⟨rfl, rfl, Nat.le_of_ble_eq_true rfl, Nat.le_of_ble_eq_true rfl⟩ dX5_copyFrom_86 (fun r13 M12 => ?_)
  exact G_vret (pc := 89) h dX5_copyFrom_89
theorem dX2_push_0 : decode cX2_push 0 = .ok (.aload_n 0, 1) := by decide +kernel
theorem dX2_push_1 : decode cX2_push 1 = .ok (.getfield 18, 3) := by decide +kernel
theorem dX2_push_4 : decode cX2_push 4 = .ok (.iconst 4, 1) := by decide +kernel
theorem dX2_push_5 : decode cX2_push 5 = .ok (.if_icmp .lt 7, 3) := by decide +kernel
theorem dX2_push_8 : decode cX2_push 8 = .ok (.aload_n 0, 1) := by decide +kernel
theorem dX2_push_9 : decode cX2_push 9 = .ok (.invokevirtual 22, 3) := by decide +kernel
theorem dX2_push_12 : decode cX2_push 12 = .ok (.aload_n 0, 1) := by decide +kernel
theorem dX2_push_13 : decode cX2_push 13 = .ok (.getfield 18, 3) := by decide +kernel
theorem dX2_push_16 : decode cX2_push 16 = .ok (.ifCond .lt 11, 3) := by decide +kernel
theorem dX2_push_19 : decode cX2_push 19 = .ok (.aload_n 0, 1) := by decide +kernel
theorem dX2_push_20 : decode cX2_push 20 = .ok (.getfield 18, 3) := by decide +kernel
theorem dX2_push_23 : decode cX2_push 23 = .ok (.iconst 4, 1) := by decide +kernel
theorem dX2_push_24 : decode cX2_push 24 = .ok (.if_icmp .lt 4, 3) := by decide +kernel
theorem dX2_push_27 : decode cX2_push 27 = .ok (.return_, 1) := by decide +kernel
theorem dX2_push_28 : decode cX2_push 28 = .ok (.aload_n 0, 1) := by decide +kernel
theorem dX2_push_29 : decode cX2_push 29 = .ok (.getfield 11, 3) := by decide +kernel
theorem dX2_push_32 : decode cX2_push 32 = .ok (.aload_n 0, 1) := by decide +kernel
theorem dX2_push_33 : decode cX2_push 33 = .ok (.getfield 18, 3) := by decide +kernel
theorem dX2_push_36 : decode cX2_push 36 = .ok (.aaload, 1) := by decide +kernel
theorem dX2_push_37 : decode cX2_push 37 = .ok (.astore_n 2, 1) := by decide +kernel
theorem dX2_push_38 : decode cX2_push 38 = .ok (.aload_n 2, 1) := by decide +kernel
theorem dX2_push_39 : decode cX2_push 39 = .ok (.ifnull 18, 3) := by decide +kernel
theorem dX2_push_42 : decode cX2_push 42 = .ok (.aload_n 2, 1) := by decide +kernel
theorem dX2_push_43 : decode cX2_push 43 = .ok (.aload_n 1, 1) := by decide +kernel
theorem dX2_push_44 : decode cX2_push 44 = .ok (.invokevirtual 25, 3) := by decide +kernel
theorem dX2_push_47 : decode cX2_push 47 = .ok (.aload_n 0, 1) := by decide +kernel
theorem dX2_push_48 : decode cX2_push 48 = .ok (.dup, 1) := by decide +kernel
theorem dX2_push_49 : decode cX2_push 49 = .ok (.getfield 18, 3) := by decide +kernel
theorem dX2_push_52 : decode cX2_push 52 = .ok (.iconst 1, 1) := by decide +kernel
theorem dX2_push_53 : decode cX2_push 53 = .ok (.iadd, 1) := by decide +kernel
theorem dX2_push_54 : decode cX2_push 54 = .ok (.putfield 18, 3) := by decide +kernel
theorem dX2_push_57 : decode cX2_push 57 = .ok (.return_, 1) := by decide +kernel
abbrev rX2_push : Room := { frames := 3, cells := 0, slots := 0, locals := 60 }
set_option maxRecDepth 20000 in
theorem gd_X2_push_B12 {x : Cx} {y : Cy} (hy : Inj y) (h : OkM x y cX2_push RX2 3 none rX2_push) (q1 : Nat) (hq1 : q1 < 7) (M : Mem) : G x y 12 [(0, .ref (y.2.1 134)), (1, .ref (y.2.1 (sI q1 0)))] [] M (d_X2_push_B12 q1 M) := by
  unfold d_X2_push_B12
  refine G_aload_n (pc := 12) h.1 dX2_push_12 rfl 0 rfl ?_
  refine G_get (pc := 13) (v := .int (M 134 1)) h.1 fl_X2_18 lN134 (eM134 _) rfl dX2_push_13 ?_
  refine G_if_lt (pc := 16) (tgt := 27) h.1 dX2_push_16 (by decide) ?_ ?_
  · exact G_vret (pc := 27) h dX2_push_27
  · refine G_aload_n (pc := 19) h.1 dX2_push_19 rfl 0 rfl ?_
    refine G_get (pc := 20) (v := .int (M 134 1)) h.1 fl_X2_18 lN134 (eM134 _) rfl dX2_push_20 ?_
    refine G_iconst (pc := 23) (v := (4)) h.1 dX2_push_23 (by decide) ?_
    refine G_icmp_lt (pc := 24) (tgt := 28) h.1 dX2_push_24 (by decide) ?_ ?_
    · refine G_aload_n (pc := 28) h.1 dX2_push_28 rfl 0 rfl ?_
      refine G_get (pc := 29) (v := .ref (y.2.1 135)) h.1 fl_X2_11 lN134 (eM134 _) rfl dX2_push_29 ?_
      refine G_aload_n (pc := 32) h.1 dX2_push_32 rfl 0 rfl ?_
      refine G_get (pc := 33) (v := .int (M 134 1)) h.1 fl_X2_18 lN134 (eM134 _) rfl dX2_push_33 ?_
      refine G_aald (pc := 36) h.1 dX2_push_36 (fun qz1 hqz1 => ?_)
      refine G_astore_n (pc := 37) h.1 h.2.1 [(2, .ref (y.2.1 (sI qz1 0))), (0, .ref (y.2.1 134)), (1, .ref (y.2.1 (sI q1 0)))] dX2_push_37 rfl (by decide) rfl ?_
      refine G_aload_n (pc := 38) h.1 dX2_push_38 rfl 0 rfl ?_
      refine G_ifnull (pc := 39) h.1 dX2_push_39 ?_
      refine G_aload_n (pc := 42) h.1 dX2_push_42 rfl 0 rfl ?_
      refine G_aload_n (pc := 43) h.1 dX2_push_43 rfl 2 rfl ?_
      refine G_callVv (pc := 44) (As := [.ref (y.2.1 (sI q1 0))]) (rest := []) h.1 h.2.2.1 lk_X2_25 (ids_s hqz1 0 (by decide)) (eS0 hqz1 _) rfl rfl (c_X5_copyFrom x.1.2.1 y hy qz1 q1 hqz1 hq1 M) rfl rfl (Nat.le_of_ble_eq_true rfl) ⟨rfl, rfl, Nat.le_of_ble_eq_true rfl, Nat.le_of_ble_eq_true rfl⟩ dX2_push_44 (fun r3 M2 => ?_)
      refine G_aload_n (pc := 47) h.1 dX2_push_47 rfl 1 rfl ?_
      refine G_dup (pc := 48) h.1 dX2_push_48 rfl ?_
      refine G_get (pc := 49) (v := .int (M2 134 1)) h.1 fl_X2_18 lN134 (eM134 _) rfl dX2_push_49 ?_
      refine G_iconst (pc := 52) (v := (1)) h.1 dX2_push_52 (by decide) ?_
      refine G_iadd (pc := 53) h.1 dX2_push_53 ?_
      refine G_put (pc := 54) h.1 fp_X2_18 lN134 (fun m => eM134 m) (fun _ => rfl) (fun _ => Nat.le_of_ble_eq_true rfl) rfl rfl dX2_push_54 (fun M4 => ?_)
      exact G_vret (pc := 57) h dX2_push_57
    · exact G_vret (pc := 27) h dX2_push_27
set_option maxRecDepth 20000 in
theorem c_X2_push (l : Launch) (y : Cy) (hy : Inj y) (q1 : Nat) (hq1 : q1 < 7) (M : Mem) : CT l y yX2_push cX2_push 3 none rX2_push [.ref (y.2.1 134), .ref (y.2.1 (sI q1 0))] M (d_X2_push q1 M) := by
  refine CT_of (by decide) hy (Nat.le_of_ble_eq_true rfl) (fun x hxl h => ?_)
  show G x y 0 [(0, .ref (y.2.1 134)), (1, .ref (y.2.1 (sI q1 0)))] [] M _
  unfold d_X2_push
  refine G_aload_n (pc := 0) h.1 dX2_push_0 rfl 0 rfl ?_
  refine G_get (pc := 1) (v := .int (M 134 1)) h.1 fl_X2_18 lN134 (eM134 _) rfl dX2_push_1 ?_
  refine G_iconst (pc := 4) (v := (4)) h.1 dX2_push_4 (by decide) ?_
  refine G_icmp_lt (pc := 5) (tgt := 12) h.1 dX2_push_5 (by decide) ?_ ?_
  · exact G_sub [0, 1] rfl (gd_X2_push_B12 hy h q1 hq1 M)
  · refine G_aload_n (pc := 8) h.1 dX2_push_8 rfl 0 rfl ?_
    refine G_callVv (pc := 9) (As := []) (rest := []) h.1 h.2.2.1 lk_X2_22 lN134 (eM134 _) rfl rfl (c_X2_dropOldest x.1.2.1 y hy M) rfl rfl (Nat.le_of_ble_eq_true rfl) ⟨rfl, rfl, Nat.le_of_ble_eq_true rfl, Nat.le_of_ble_eq_true rfl⟩ dX2_push_9 (fun r6 M5 => ?_)
    exact G_sub [0, 1] rfl (gd_X2_push_B12 hy h q1 hq1 M5)
theorem dX2_popInto_0 : decode cX2_popInto 0 = .ok (.aload_n 0, 1) := by decide +kernel
theorem dX2_popInto_1 : decode cX2_popInto 1 = .ok (.getfield 18, 3) := by decide +kernel
theorem dX2_popInto_4 : decode cX2_popInto 4 = .ok (.ifCond .le 11, 3) := by decide +kernel
theorem dX2_popInto_7 : decode cX2_popInto 7 = .ok (.aload_n 0, 1) := by decide +kernel
theorem dX2_popInto_8 : decode cX2_popInto 8 = .ok (.getfield 18, 3) := by decide +kernel
theorem dX2_popInto_11 : decode cX2_popInto 11 = .ok (.iconst 4, 1) := by decide +kernel
theorem dX2_popInto_12 : decode cX2_popInto 12 = .ok (.if_icmp .le 4, 3) := by decide +kernel
theorem dX2_popInto_15 : decode cX2_popInto 15 = .ok (.return_, 1) := by decide +kernel
theorem dX2_popInto_16 : decode cX2_popInto 16 = .ok (.aload_n 0, 1) := by decide +kernel
theorem dX2_popInto_17 : decode cX2_popInto 17 = .ok (.dup, 1) := by decide +kernel
theorem dX2_popInto_18 : decode cX2_popInto 18 = .ok (.getfield 18, 3) := by decide +kernel
theorem dX2_popInto_21 : decode cX2_popInto 21 = .ok (.iconst 1, 1) := by decide +kernel
theorem dX2_popInto_22 : decode cX2_popInto 22 = .ok (.isub, 1) := by decide +kernel
theorem dX2_popInto_23 : decode cX2_popInto 23 = .ok (.putfield 18, 3) := by decide +kernel
theorem dX2_popInto_26 : decode cX2_popInto 26 = .ok (.aload_n 0, 1) := by decide +kernel
theorem dX2_popInto_27 : decode cX2_popInto 27 = .ok (.getfield 11, 3) := by decide +kernel
theorem dX2_popInto_30 : decode cX2_popInto 30 = .ok (.aload_n 0, 1) := by decide +kernel
theorem dX2_popInto_31 : decode cX2_popInto 31 = .ok (.getfield 18, 3) := by decide +kernel
theorem dX2_popInto_34 : decode cX2_popInto 34 = .ok (.aaload, 1) := by decide +kernel
theorem dX2_popInto_35 : decode cX2_popInto 35 = .ok (.astore_n 2, 1) := by decide +kernel
theorem dX2_popInto_36 : decode cX2_popInto 36 = .ok (.aload_n 2, 1) := by decide +kernel
theorem dX2_popInto_37 : decode cX2_popInto 37 = .ok (.ifnull 8, 3) := by decide +kernel
theorem dX2_popInto_40 : decode cX2_popInto 40 = .ok (.aload_n 1, 1) := by decide +kernel
theorem dX2_popInto_41 : decode cX2_popInto 41 = .ok (.aload_n 2, 1) := by decide +kernel
theorem dX2_popInto_42 : decode cX2_popInto 42 = .ok (.invokevirtual 25, 3) := by decide +kernel
theorem dX2_popInto_45 : decode cX2_popInto 45 = .ok (.return_, 1) := by decide +kernel
abbrev rX2_popInto : Room := { frames := 3, cells := 0, slots := 0, locals := 60 }
set_option maxRecDepth 20000 in
theorem c_X2_popInto (l : Launch) (y : Cy) (hy : Inj y) (q1 : Nat) (hq1 : q1 < 7) (M : Mem) : CT l y yX2_popInto cX2_popInto 3 none rX2_popInto [.ref (y.2.1 134), .ref (y.2.1 (sI q1 0))] M (d_X2_popInto q1 M) := by
  refine CT_of (by decide) hy (Nat.le_of_ble_eq_true rfl) (fun x hxl h => ?_)
  show G x y 0 [(0, .ref (y.2.1 134)), (1, .ref (y.2.1 (sI q1 0)))] [] M _
  unfold d_X2_popInto
  refine G_aload_n (pc := 0) h.1 dX2_popInto_0 rfl 0 rfl ?_
  refine G_get (pc := 1) (v := .int (M 134 1)) h.1 fl_X2_18 lN134 (eM134 _) rfl dX2_popInto_1 ?_
  refine G_if_le (pc := 4) (tgt := 15) h.1 dX2_popInto_4 (by decide) ?_ ?_
  · exact G_vret (pc := 15) h dX2_popInto_15
  · refine G_aload_n (pc := 7) h.1 dX2_popInto_7 rfl 0 rfl ?_
    refine G_get (pc := 8) (v := .int (M 134 1)) h.1 fl_X2_18 lN134 (eM134 _) rfl dX2_popInto_8 ?_
    refine G_iconst (pc := 11) (v := (4)) h.1 dX2_popInto_11 (by decide) ?_
    refine G_icmp_le (pc := 12) (tgt := 16) h.1 dX2_popInto_12 (by decide) ?_ ?_
    · refine G_aload_n (pc := 16) h.1 dX2_popInto_16 rfl 0 rfl ?_
      refine G_dup (pc := 17) h.1 dX2_popInto_17 rfl ?_
      refine G_get (pc := 18) (v := .int (M 134 1)) h.1 fl_X2_18 lN134 (eM134 _) rfl dX2_popInto_18 ?_
      refine G_iconst (pc := 21) (v := (1)) h.1 dX2_popInto_21 (by decide) ?_
      refine G_isub (pc := 22) h.1 dX2_popInto_22 ?_
      refine G_put (pc := 23) h.1 fp_X2_18 lN134 (fun m => eM134 m) (fun _ => rfl) (fun _ => Nat.le_of_ble_eq_true rfl) rfl rfl dX2_popInto_23 (fun M1 => ?_)
      refine G_aload_n (pc := 26) h.1 dX2_popInto_26 rfl 0 rfl ?_
      refine G_get (pc := 27) (v := .ref (y.2.1 135)) h.1 fl_X2_11 lN134 (eM134 _) rfl dX2_popInto_27 ?_
      refine G_aload_n (pc := 30) h.1 dX2_popInto_30 rfl 0 rfl ?_
      refine G_get (pc := 31) (v := .int (M1 134 1)) h.1 fl_X2_18 lN134 (eM134 _) rfl dX2_popInto_31 ?_
      refine G_aald (pc := 34) h.1 dX2_popInto_34 (fun qz2 hqz2 => ?_)
      refine G_astore_n (pc := 35) h.1 h.2.1 [(2, .ref (y.2.1 (sI qz2 0))), (0, .ref (y.2.1 134)), (1, .ref (y.2.1 (sI q1 0)))] dX2_popInto_35 rfl (by decide) rfl ?_
      refine G_aload_n (pc := 36) h.1 dX2_popInto_36 rfl 0 rfl ?_
      refine G_ifnull (pc := 37) h.1 dX2_popInto_37 ?_
      refine G_aload_n (pc := 40) h.1 dX2_popInto_40 rfl 2 rfl ?_
      refine G_aload_n (pc := 41) h.1 dX2_popInto_41 rfl 0 rfl ?_
      refine G_callVv (pc := 42) (As := [.ref (y.2.1 (sI qz2 0))]) (rest := []) h.1 h.2.2.1 lk_X2_25 (ids_s hq1 0 (by decide)) (eS0 hq1 _) rfl rfl (c_X5_copyFrom x.1.2.1 y hy q1 qz2 hq1 hqz2 M1) rfl rfl (Nat.le_of_ble_eq_true rfl) ⟨rfl, rfl, Nat.le_of_ble_eq_true rfl, Nat.le_of_ble_eq_true rfl⟩ dX2_popInto_42 (fun r4 M3 => ?_)
      exact G_vret (pc := 45) h dX2_popInto_45
    · exact G_vret (pc := 15) h dX2_popInto_15
theorem dX3_forecastWithout_0 : decode cX3_forecastWithout 0 = .ok (.aload_n 0, 1) := by decide +kernel
theorem dX3_forecastWithout_1 : decode cX3_forecastWithout 1 = .ok (.getfield 12, 3) := by decide +kernel
theorem dX3_forecastWithout_4 : decode cX3_forecastWithout 4 = .ok (.aload_n 1, 1) := by decide +kernel
theorem dX3_forecastWithout_5 : decode cX3_forecastWithout 5 = .ok (.iload_n 2, 1) := by decide +kernel
theorem dX3_forecastWithout_6 : decode cX3_forecastWithout 6 = .ok (.iconst (-1), 1) := by decide +kernel
theorem dX3_forecastWithout_7 : decode cX3_forecastWithout 7 = .ok (.iconst (-1), 1) := by decide +kernel
theorem dX3_forecastWithout_8 : decode cX3_forecastWithout 8 = .ok (.invokevirtual 45, 3) := by decide +kernel
theorem dX3_forecastWithout_11 : decode cX3_forecastWithout 11 = .ok (.aload_n 0, 1) := by decide +kernel
theorem dX3_forecastWithout_12 : decode cX3_forecastWithout 12 = .ok (.getfield 12, 3) := by decide +kernel
theorem dX3_forecastWithout_15 : decode cX3_forecastWithout 15 = .ok (.invokevirtual 49, 3) := by decide +kernel
theorem dX3_forecastWithout_18 : decode cX3_forecastWithout 18 = .ok (.iconst 0, 1) := by decide +kernel
theorem dX3_forecastWithout_19 : decode cX3_forecastWithout 19 = .ok (.istore_n 3, 1) := by decide +kernel
theorem dX3_forecastWithout_20 : decode cX3_forecastWithout 20 = .ok (.iload_n 3, 1) := by decide +kernel
theorem dX3_forecastWithout_21 : decode cX3_forecastWithout 21 = .ok (.bipush 60, 2) := by decide +kernel
theorem dX3_forecastWithout_23 : decode cX3_forecastWithout 23 = .ok (.if_icmp .ge 16, 3) := by decide +kernel
theorem dX3_forecastWithout_26 : decode cX3_forecastWithout 26 = .ok (.aload_n 0, 1) := by decide +kernel
theorem dX3_forecastWithout_27 : decode cX3_forecastWithout 27 = .ok (.getfield 18, 3) := by decide +kernel
theorem dX3_forecastWithout_30 : decode cX3_forecastWithout 30 = .ok (.iload_n 3, 1) := by decide +kernel
theorem dX3_forecastWithout_31 : decode cX3_forecastWithout 31 = .ok (.iconst 0, 1) := by decide +kernel
theorem dX3_forecastWithout_32 : decode cX3_forecastWithout 32 = .ok (.bastore, 1) := by decide +kernel
theorem dX3_forecastWithout_33 : decode cX3_forecastWithout 33 = .ok (.iinc 3 1, 3) := by decide +kernel
theorem dX3_forecastWithout_36 : decode cX3_forecastWithout 36 = .ok (.goto (-16), 3) := by decide +kernel
theorem dX3_forecastWithout_39 : decode cX3_forecastWithout 39 = .ok (.iconst 0, 1) := by decide +kernel
theorem dX3_forecastWithout_40 : decode cX3_forecastWithout 40 = .ok (.istore_n 3, 1) := by decide +kernel
theorem dX3_forecastWithout_41 : decode cX3_forecastWithout 41 = .ok (.iload_n 3, 1) := by decide +kernel
theorem dX3_forecastWithout_42 : decode cX3_forecastWithout 42 = .ok (.aload_n 0, 1) := by decide +kernel
theorem dX3_forecastWithout_43 : decode cX3_forecastWithout 43 = .ok (.getfield 12, 3) := by decide +kernel
theorem dX3_forecastWithout_46 : decode cX3_forecastWithout 46 = .ok (.getfield 52, 3) := by decide +kernel
theorem dX3_forecastWithout_49 : decode cX3_forecastWithout 49 = .ok (.if_icmp .ge 57, 3) := by decide +kernel
theorem dX3_forecastWithout_52 : decode cX3_forecastWithout 52 = .ok (.aload_n 0, 1) := by decide +kernel
theorem dX3_forecastWithout_53 : decode cX3_forecastWithout 53 = .ok (.getfield 12, 3) := by decide +kernel
theorem dX3_forecastWithout_56 : decode cX3_forecastWithout 56 = .ok (.getfield 55, 3) := by decide +kernel
theorem dX3_forecastWithout_59 : decode cX3_forecastWithout 59 = .ok (.iload_n 3, 1) := by decide +kernel
theorem dX3_forecastWithout_60 : decode cX3_forecastWithout 60 = .ok (.iaload, 1) := by decide +kernel
theorem dX3_forecastWithout_61 : decode cX3_forecastWithout 61 = .ok (.istore 4, 2) := by decide +kernel
theorem dX3_forecastWithout_63 : decode cX3_forecastWithout 63 = .ok (.iload 4, 2) := by decide +kernel
theorem dX3_forecastWithout_65 : decode cX3_forecastWithout 65 = .ok (.ifCond .lt 35, 3) := by decide +kernel
theorem dX3_forecastWithout_68 : decode cX3_forecastWithout 68 = .ok (.iload 4, 2) := by decide +kernel
theorem dX3_forecastWithout_70 : decode cX3_forecastWithout 70 = .ok (.bipush 60, 2) := by decide +kernel
theorem dX3_forecastWithout_72 : decode cX3_forecastWithout 72 = .ok (.if_icmp .ge 28, 3) := by decide +kernel
theorem dX3_forecastWithout_75 : decode cX3_forecastWithout 75 = .ok (.aload_n 0, 1) := by decide +kernel
theorem dX3_forecastWithout_76 : decode cX3_forecastWithout 76 = .ok (.getfield 18, 3) := by decide +kernel
theorem dX3_forecastWithout_79 : decode cX3_forecastWithout 79 = .ok (.iload 4, 2) := by decide +kernel
theorem dX3_forecastWithout_81 : decode cX3_forecastWithout 81 = .ok (.aload_n 0, 1) := by decide +kernel
theorem dX3_forecastWithout_82 : decode cX3_forecastWithout 82 = .ok (.getfield 12, 3) := by decide +kernel
theorem dX3_forecastWithout_85 : decode cX3_forecastWithout 85 = .ok (.getfield 59, 3) := by decide +kernel
theorem dX3_forecastWithout_88 : decode cX3_forecastWithout 88 = .ok (.iload_n 3, 1) := by decide +kernel
theorem dX3_forecastWithout_89 : decode cX3_forecastWithout 89 = .ok (.iaload, 1) := by decide +kernel
theorem dX3_forecastWithout_90 : decode cX3_forecastWithout 90 = .ok (.iconst 3, 1) := by decide +kernel
theorem dX3_forecastWithout_91 : decode cX3_forecastWithout 91 = .ok (.if_icmp .ne 7, 3) := by decide +kernel
theorem dX3_forecastWithout_94 : decode cX3_forecastWithout 94 = .ok (.iconst 1, 1) := by decide +kernel
theorem dX3_forecastWithout_95 : decode cX3_forecastWithout 95 = .ok (.goto 4, 3) := by decide +kernel
theorem dX3_forecastWithout_98 : decode cX3_forecastWithout 98 = .ok (.iconst 0, 1) := by decide +kernel
theorem dX3_forecastWithout_99 : decode cX3_forecastWithout 99 = .ok (.bastore, 1) := by decide +kernel
theorem dX3_forecastWithout_100 : decode cX3_forecastWithout 100 = .ok (.iinc 3 1, 3) := by decide +kernel
theorem dX3_forecastWithout_103 : decode cX3_forecastWithout 103 = .ok (.goto (-62), 3) := by decide +kernel
theorem dX3_forecastWithout_106 : decode cX3_forecastWithout 106 = .ok (.return_, 1) := by decide +kernel
abbrev rX3_forecastWithout : Room := { frames := 3, cells := 0, slots := 0, locals := 71 }
set_option maxRecDepth 20000 in
theorem gd_X3_forecastWithout_L20_body {x : Cx} {y : Cy} (hy : Inj y) (h : OkM x y cX3_forecastWithout RX3 5 none rX3_forecastWithout) (q1 : Nat) (hq1 : q1 < 7) (kx1 : Mem → Ans) (hx1 : ∀ M0 : Mem, G x y 39 [(0, .ref (y.2.1 132))] [] M0 (kx1 M0)) (kb : Int32 → Mem → Ans) (hb : ∀ (b3 : Int32), ∀ M0 : Mem, G x y 20 [(0, .ref (y.2.1 132)), (3, .int b3)] [] M0 (kb b3 M0)) (a3 : Int32) (M : Mem) : G x y 20 [(0, .ref (y.2.1 132)), (3, .int a3)] [] M (d_X3_forecastWithout_L20_body q1 kx1 kb a3 M) := by
  unfold d_X3_forecastWithout_L20_body
  refine G_iload_n (pc := 20) h.1 dX3_forecastWithout_20 rfl 1 rfl ?_
  refine G_bipush (pc := 21) (v := (60)) h.1 dX3_forecastWithout_21 (by decide) ?_
  refine G_icmp_ge (pc := 23) (tgt := 39) h.1 dX3_forecastWithout_23 (by decide) ?_ ?_
  · exact G_sub [0] rfl (hx1 M)
  · refine G_aload_n (pc := 26) h.1 dX3_forecastWithout_26 rfl 0 rfl ?_
    refine G_get (pc := 27) (v := .ref (y.2.1 133)) h.1 fl_X3_18 lN132 (eM132 _) rfl dX3_forecastWithout_27 ?_
    refine G_iload_n (pc := 30) h.1 dX3_forecastWithout_30 rfl 1 rfl ?_
    refine G_iconst (pc := 31) (v := (0)) h.1 dX3_forecastWithout_31 (by decide) ?_
    refine G_zast (pc := 32) h.1 lN133 (fun m => eM133 m) dX3_forecastWithout_32 (fun M5 => ?_)
    refine G_iinc (pc := 33) (v := a3 + (1)) h.1 h.2.1 (fun v6 => [(3, .int v6), (0, .ref (y.2.1 132))]) dX3_forecastWithout_33 (by decide) 1 rfl rfl (fun _ => rfl) (fun v6 => ?_)
    refine G_goto (pc := 36) (tgt := 20) h.1 dX3_forecastWithout_36 (by decide) ?_
    exact G_sub [1, 0] rfl (hb v6 M5)
set_option maxRecDepth 20000 in
theorem gd_X3_forecastWithout_L20 {x : Cx} {y : Cy} (hy : Inj y) (h : OkM x y cX3_forecastWithout RX3 5 none rX3_forecastWithout) (q1 : Nat) (hq1 : q1 < 7) (kx1 : Mem → Ans) (hx1 : ∀ M0 : Mem, G x y 39 [(0, .ref (y.2.1 132))] [] M0 (kx1 M0)) : ∀ (n : Nat) (a3 : Int32) (M : Mem), G x y 20 [(0, .ref (y.2.1 132)), (3, .int a3)] [] M (d_X3_forecastWithout_L20 q1 kx1 n a3 M) := by
  intro n
  induction n with
  | zero => intro a3 M; exact G_none
  | succ n ih => intro a3 M; exact gd_X3_forecastWithout_L20_body hy h q1 hq1 kx1 hx1 _ ih a3 M
set_option maxRecDepth 20000 in
theorem gd_X3_forecastWithout_B100 {x : Cx} {y : Cy} (hy : Inj y) (h : OkM x y cX3_forecastWithout RX3 5 none rX3_forecastWithout) (q1 : Nat) (hq1 : q1 < 7) (kx1 : Mem → Ans) (kb : Int32 → Mem → Ans) (a3 : Int32) (hx1 : ∀ M0 : Mem, G x y 106 [] [] M0 (kx1 M0)) (hb : ∀ (b3 : Int32), ∀ M0 : Mem, G x y 41 [(0, .ref (y.2.1 132)), (3, .int b3)] [] M0 (kb b3 M0)) (M : Mem) : G x y 100 [(0, .ref (y.2.1 132)), (3, .int a3)] [] M (d_X3_forecastWithout_B100 q1 kx1 kb a3 M) := by
  unfold d_X3_forecastWithout_B100
  refine G_iinc (pc := 100) (v := a3 + (1)) h.1 h.2.1 (fun v9 => [(3, .int v9), (0, .ref (y.2.1 132))]) dX3_forecastWithout_100 (by decide) 1 rfl rfl (fun _ => rfl) (fun v9 => ?_)
  refine G_goto (pc := 103) (tgt := 41) h.1 dX3_forecastWithout_103 (by decide) ?_
  exact G_sub [1, 0] rfl (hb v9 M)
set_option maxRecDepth 20000 in
theorem gd_X3_forecastWithout_B99 {x : Cx} {y : Cy} (hy : Inj y) (h : OkM x y cX3_forecastWithout RX3 5 none rX3_forecastWithout) (q1 : Nat) (hq1 : q1 < 7) (kx1 : Mem → Ans) (kb : Int32 → Mem → Ans) (a3 : Int32) (s0 : Int32) (s1 : Int32) (hx1 : ∀ M0 : Mem, G x y 106 [] [] M0 (kx1 M0)) (hb : ∀ (b3 : Int32), ∀ M0 : Mem, G x y 41 [(0, .ref (y.2.1 132)), (3, .int b3)] [] M0 (kb b3 M0)) (M : Mem) : G x y 99 [(0, .ref (y.2.1 132)), (3, .int a3)] [.int s0, .int s1, .ref (y.2.1 133)] M (d_X3_forecastWithout_B99 q1 kx1 kb a3 s0 s1 M) := by
  unfold d_X3_forecastWithout_B99
  refine G_zast (pc := 99) h.1 lN133 (fun m => eM133 m) dX3_forecastWithout_99 (fun M10 => ?_)
  exact G_sub [0, 1] rfl (gd_X3_forecastWithout_B100 hy h q1 hq1 kx1 kb a3 hx1 hb M10)
set_option maxRecDepth 20000 in
theorem gd_X3_forecastWithout_L41_body {x : Cx} {y : Cy} (hy : Inj y) (h : OkM x y cX3_forecastWithout RX3 5 none rX3_forecastWithout) (q1 : Nat) (hq1 : q1 < 7) (kx1 : Mem → Ans) (hx1 : ∀ M0 : Mem, G x y 106 [] [] M0 (kx1 M0)) (kb : Int32 → Mem → Ans) (hb : ∀ (b3 : Int32), ∀ M0 : Mem, G x y 41 [(0, .ref (y.2.1 132)), (3, .int b3)] [] M0 (kb b3 M0)) (a3 : Int32) (M : Mem) : G x y 41 [(0, .ref (y.2.1 132)), (3, .int a3)] [] M (d_X3_forecastWithout_L41_body q1 kx1 kb a3 M) := by
  unfold d_X3_forecastWithout_L41_body
  refine G_iload_n (pc := 41) h.1 dX3_forecastWithout_41 rfl 1 rfl ?_
  refine G_aload_n (pc := 42) h.1 dX3_forecastWithout_42 rfl 0 rfl ?_
  refine G_get (pc := 43) (v := .ref (y.2.1 (cI 1 0))) h.1 fl_X3_12 lN132 (eM132 _) rfl dX3_forecastWithout_43 ?_
  refine G_get (pc := 46) (v := .int (M (cI 1 0) 6)) h.1 fl_X3_52 (ids_c h2_1 0 (by decide)) (eC0 h2_1 _) rfl dX3_forecastWithout_46 ?_
  refine G_icmp_ge (pc := 49) (tgt := 106) h.1 dX3_forecastWithout_49 (by decide) ?_ ?_
  · exact G_sub [] rfl (hx1 M)
  · refine G_aload_n (pc := 52) h.1 dX3_forecastWithout_52 rfl 0 rfl ?_
    refine G_get (pc := 53) (v := .ref (y.2.1 (cI 1 0))) h.1 fl_X3_12 lN132 (eM132 _) rfl dX3_forecastWithout_53 ?_
    refine G_get (pc := 56) (v := .ref (y.2.1 (cI 1 1))) h.1 fl_X3_55 (ids_c h2_1 0 (by decide)) (eC0 h2_1 _) rfl dX3_forecastWithout_56 ?_
    refine G_iload_n (pc := 59) h.1 dX3_forecastWithout_59 rfl 1 rfl ?_
    refine G_iald (pc := 60) h.1 (ids_c h2_1 1 (by decide)) (eC1 h2_1 _) dX3_forecastWithout_60 ?_
    refine G_top (fun v8 => ?_)
    refine G_istore (pc := 61) h.1 h.2.1 [(4, .int v8), (0, .ref (y.2.1 132)), (3, .int a3)] dX3_forecastWithout_61 (by decide) rfl ?_
    refine G_iload (pc := 63) h.1 dX3_forecastWithout_63 0 rfl ?_
    refine G_if_lt (pc := 65) (tgt := 100) h.1 dX3_forecastWithout_65 (by decide) ?_ ?_
    · exact G_sub [1, 2] rfl (gd_X3_forecastWithout_B100 hy h q1 hq1 kx1 kb a3 hx1 hb M)
    · refine G_iload (pc := 68) h.1 dX3_forecastWithout_68 0 rfl ?_
      refine G_bipush (pc := 70) (v := (60)) h.1 dX3_forecastWithout_70 (by decide) ?_
      refine G_icmp_ge (pc := 72) (tgt := 100) h.1 dX3_forecastWithout_72 (by decide) ?_ ?_
      · exact G_sub [1, 2] rfl (gd_X3_forecastWithout_B100 hy h q1 hq1 kx1 kb a3 hx1 hb M)
      · refine G_aload_n (pc := 75) h.1 dX3_forecastWithout_75 rfl 1 rfl ?_
        refine G_get (pc := 76) (v := .ref (y.2.1 133)) h.1 fl_X3_18 lN132 (eM132 _) rfl dX3_forecastWithout_76 ?_
        refine G_iload (pc := 79) h.1 dX3_forecastWithout_79 0 rfl ?_
        refine G_aload_n (pc := 81) h.1 dX3_forecastWithout_81 rfl 1 rfl ?_
        refine G_get (pc := 82) (v := .ref (y.2.1 (cI 1 0))) h.1 fl_X3_12 lN132 (eM132 _) rfl dX3_forecastWithout_82 ?_
        refine G_get (pc := 85) (v := .ref (y.2.1 (cI 1 2))) h.1 fl_X3_59 (ids_c h2_1 0 (by decide)) (eC0 h2_1 _) rfl dX3_forecastWithout_85 ?_
        refine G_iload_n (pc := 88) h.1 dX3_forecastWithout_88 rfl 2 rfl ?_
        refine G_iald (pc := 89) h.1 (ids_c h2_1 2 (by decide)) (eC2 h2_1 _) dX3_forecastWithout_89 ?_
        refine G_iconst (pc := 90) (v := (3)) h.1 dX3_forecastWithout_90 (by decide) ?_
        refine G_icmp_ne (pc := 91) (tgt := 98) h.1 dX3_forecastWithout_91 (by decide) ?_ ?_
        · refine G_iconst (pc := 98) (v := (0)) h.1 dX3_forecastWithout_98 (by decide) ?_
          exact G_sub [1, 2] rfl (gd_X3_forecastWithout_B99 hy h q1 hq1 kx1 kb a3 (0 : Int32) v8 hx1 hb M)
        · refine G_iconst (pc := 94) (v := (1)) h.1 dX3_forecastWithout_94 (by decide) ?_
          refine G_goto (pc := 95) (tgt := 99) h.1 dX3_forecastWithout_95 (by decide) ?_
          exact G_sub [1, 2] rfl (gd_X3_forecastWithout_B99 hy h q1 hq1 kx1 kb a3 (1 : Int32) v8 hx1 hb M)
set_option maxRecDepth 20000 in
theorem gd_X3_forecastWithout_L41 {x : Cx} {y : Cy} (hy : Inj y) (h : OkM x y cX3_forecastWithout RX3 5 none rX3_forecastWithout) (q1 : Nat) (hq1 : q1 < 7) (kx1 : Mem → Ans) (hx1 : ∀ M0 : Mem, G x y 106 [] [] M0 (kx1 M0)) : ∀ (n : Nat) (a3 : Int32) (M : Mem), G x y 41 [(0, .ref (y.2.1 132)), (3, .int a3)] [] M (d_X3_forecastWithout_L41 q1 kx1 n a3 M) := by
  intro n
  induction n with
  | zero => intro a3 M; exact G_none
  | succ n ih => intro a3 M; exact gd_X3_forecastWithout_L41_body hy h q1 hq1 kx1 hx1 _ ih a3 M
set_option maxRecDepth 20000 in
theorem c_X3_forecastWithout (l : Launch) (y : Cy) (hy : Inj y) (q1 : Nat) (hq1 : q1 < 7) (p2 : Int32) (M : Mem) : CT l y yX3_forecastWithout cX3_forecastWithout 5 none rX3_forecastWithout [.ref (y.2.1 132), .ref (y.2.1 (sI q1 0)), .int p2] M (d_X3_forecastWithout q1 p2 M) := by
  refine CT_of (by decide) hy (Nat.le_of_ble_eq_true rfl) (fun x hxl h => ?_)
  show G x y 0 [(0, .ref (y.2.1 132)), (1, .ref (y.2.1 (sI q1 0))), (2, .int p2)] [] M _
  unfold d_X3_forecastWithout
  refine G_aload_n (pc := 0) h.1 dX3_forecastWithout_0 rfl 0 rfl ?_
  refine G_get (pc := 1) (v := .ref (y.2.1 (cI 1 0))) h.1 fl_X3_12 lN132 (eM132 _) rfl dX3_forecastWithout_1 ?_
  refine G_aload_n (pc := 4) h.1 dX3_forecastWithout_4 rfl 1 rfl ?_
  refine G_iload_n (pc := 5) h.1 dX3_forecastWithout_5 rfl 2 rfl ?_
  refine G_iconst (pc := 6) (v := (-1)) h.1 dX3_forecastWithout_6 (by decide) ?_
  refine G_iconst (pc := 7) (v := (-1)) h.1 dX3_forecastWithout_7 (by decide) ?_
  refine G_callVv (pc := 8) (As := [.ref (y.2.1 (sI q1 0)), .int p2, .int (-1 : Int32), .int (-1 : Int32)]) (rest := []) h.1 h.2.2.1 lk_X3_45 (ids_c h2_1 0 (by decide)) (eC0 h2_1 _) rfl rfl (c_X1_beginWith x.1.2.1 y hy 1 q1 h2_1 hq1 p2 (-1 : Int32) (-1 : Int32) M) rfl rfl (Nat.le_of_ble_eq_true rfl) ⟨rfl, rfl, Nat.le_of_ble_eq_true rfl, Nat.le_of_ble_eq_true rfl⟩ dX3_forecastWithout_8 (fun r2 M1 => ?_)
  refine G_aload_n (pc := 11) h.1 dX3_forecastWithout_11 rfl 0 rfl ?_
  refine G_get (pc := 12) (v := .ref (y.2.1 (cI 1 0))) h.1 fl_X3_12 lN132 (eM132 _) rfl dX3_forecastWithout_12 ?_
  refine G_callVv (pc := 15) (As := []) (rest := []) h.1 h.2.2.1 lk_X3_49 (ids_c h2_1 0 (by decide)) (eC0 h2_1 _) rfl rfl (c_X1_passToEnd x.1.2.1 y hy 1 h2_1 M1) rfl rfl (Nat.le_of_ble_eq_true rfl) ⟨rfl, rfl, Nat.le_of_ble_eq_true rfl, Nat.le_of_ble_eq_true rfl⟩ dX3_forecastWithout_15 (fun r4 M3 => ?_)
  refine G_iconst (pc := 18) (v := (0)) h.1 dX3_forecastWithout_18 (by decide) ?_
  refine G_istore_n (pc := 19) h.1 h.2.1 [(3, .int (0 : Int32)), (0, .ref (y.2.1 132)), (1, .ref (y.2.1 (sI q1 0))), (2, .int p2)] dX3_forecastWithout_19 rfl (by decide) rfl ?_
  refine G_sub [1, 0] rfl (gd_X3_forecastWithout_L20 hy h q1 hq1 _ (fun M7 => ?_) fuelN (0 : Int32) M3)
  refine G_iconst (pc := 39) (v := (0)) h.1 dX3_forecastWithout_39 (by decide) ?_
  refine G_istore_n (pc := 40) h.1 h.2.1 [(3, .int (0 : Int32)), (0, .ref (y.2.1 132))] dX3_forecastWithout_40 rfl (by decide) rfl ?_
  refine G_sub [1, 0] rfl (gd_X3_forecastWithout_L41 hy h q1 hq1 _ (fun M11 => ?_) fuelN (0 : Int32) M7)
  exact G_vret (pc := 106) h dX3_forecastWithout_106
theorem dX4_lastBusy_0 : decode cX4_lastBusy 0 = .ok (.aload_n 0, 1) := by decide +kernel
theorem dX4_lastBusy_1 : decode cX4_lastBusy 1 = .ok (.iload_n 1, 1) := by decide +kernel
theorem dX4_lastBusy_2 : decode cX4_lastBusy 2 = .ok (.invokevirtual 28, 3) := by decide +kernel
theorem dX4_lastBusy_5 : decode cX4_lastBusy 5 = .ok (.ifCond .eq 23, 3) := by decide +kernel
theorem dX4_lastBusy_8 : decode cX4_lastBusy 8 = .ok (.iload_n 2, 1) := by decide +kernel
theorem dX4_lastBusy_9 : decode cX4_lastBusy 9 = .ok (.aload_n 0, 1) := by decide +kernel
theorem dX4_lastBusy_10 : decode cX4_lastBusy 10 = .ok (.getfield 18, 3) := by decide +kernel
theorem dX4_lastBusy_13 : decode cX4_lastBusy 13 = .ok (.iload_n 1, 1) := by decide +kernel
theorem dX4_lastBusy_14 : decode cX4_lastBusy 14 = .ok (.iaload, 1) := by decide +kernel
theorem dX4_lastBusy_15 : decode cX4_lastBusy 15 = .ok (.iadd, 1) := by decide +kernel
theorem dX4_lastBusy_16 : decode cX4_lastBusy 16 = .ok (.iconst 1, 1) := by decide +kernel
theorem dX4_lastBusy_17 : decode cX4_lastBusy 17 = .ok (.isub, 1) := by decide +kernel
theorem dX4_lastBusy_18 : decode cX4_lastBusy 18 = .ok (.aload_n 0, 1) := by decide +kernel
theorem dX4_lastBusy_19 : decode cX4_lastBusy 19 = .ok (.getfield 21, 3) := by decide +kernel
theorem dX4_lastBusy_22 : decode cX4_lastBusy 22 = .ok (.iload_n 1, 1) := by decide +kernel
theorem dX4_lastBusy_23 : decode cX4_lastBusy 23 = .ok (.iaload, 1) := by decide +kernel
theorem dX4_lastBusy_24 : decode cX4_lastBusy 24 = .ok (.iadd, 1) := by decide +kernel
theorem dX4_lastBusy_25 : decode cX4_lastBusy 25 = .ok (.goto 4, 3) := by decide +kernel
theorem dX4_lastBusy_28 : decode cX4_lastBusy 28 = .ok (.iload_n 2, 1) := by decide +kernel
theorem dX4_lastBusy_29 : decode cX4_lastBusy 29 = .ok (.ireturn, 1) := by decide +kernel
abbrev rX4_lastBusy : Room := { frames := 1, cells := 0, slots := 0, locals := 21 }
set_option maxRecDepth 20000 in
theorem c_X4_lastBusy (l : Launch) (y : Cy) (hy : Inj y) (q0 : Nat) (hq0 : q0 < 7) (p1 : Int32) (p2 : Int32) (M : Mem) : CT l y yX4_lastBusy cX4_lastBusy 3 (some .int) rX4_lastBusy [.ref (y.2.1 (sI q0 1)), .int p1, .int p2] M (d_X4_lastBusy q0 p1 p2 M) := by
  refine CT_of (by decide) hy (Nat.le_of_ble_eq_true rfl) (fun x hxl h => ?_)
  show G x y 0 [(0, .ref (y.2.1 (sI q0 1))), (1, .int p1), (2, .int p2)] [] M _
  unfold d_X4_lastBusy
  refine G_aload_n (pc := 0) h.1 dX4_lastBusy_0 rfl 0 rfl ?_
  refine G_iload_n (pc := 1) h.1 dX4_lastBusy_1 rfl 1 rfl ?_
  refine G_callV (pc := 2) (As := [.int p1]) (rest := []) h.1 h.2.2.1 lk_X4_28 (ids_s hq0 1 (by decide)) (eS1 hq0 _) rfl rfl (c_X4_has x.1.2.1 y hy q0 hq0 p1 M) rfl rfl (Nat.le_of_ble_eq_true rfl) ⟨rfl, rfl, Nat.le_of_ble_eq_true rfl, Nat.le_of_ble_eq_true rfl⟩ dX4_lastBusy_2 (fun r2 M1 => ?_)
  refine G_if_eq (pc := 5) (tgt := 28) h.1 dX4_lastBusy_5 (by decide) ?_ ?_
  · refine G_iload_n (pc := 28) h.1 dX4_lastBusy_28 rfl 2 rfl ?_
    exact G_ret (pc := 29) h rfl dX4_lastBusy_29
  · refine G_iload_n (pc := 8) h.1 dX4_lastBusy_8 rfl 2 rfl ?_
    refine G_aload_n (pc := 9) h.1 dX4_lastBusy_9 rfl 0 rfl ?_
    refine G_get (pc := 10) (v := .ref (y.2.1 (sI q0 4))) h.1 fl_X4_18 (ids_s hq0 1 (by decide)) (eS1 hq0 _) rfl dX4_lastBusy_10 ?_
    refine G_iload_n (pc := 13) h.1 dX4_lastBusy_13 rfl 1 rfl ?_
    refine G_iald (pc := 14) h.1 (ids_s hq0 4 (by decide)) (eS4 hq0 _) dX4_lastBusy_14 ?_
    refine G_iadd (pc := 15) h.1 dX4_lastBusy_15 ?_
    refine G_iconst (pc := 16) (v := (1)) h.1 dX4_lastBusy_16 (by decide) ?_
    refine G_isub (pc := 17) h.1 dX4_lastBusy_17 ?_
    refine G_aload_n (pc := 18) h.1 dX4_lastBusy_18 rfl 0 rfl ?_
    refine G_get (pc := 19) (v := .ref (y.2.1 (sI q0 5))) h.1 fl_X4_21 (ids_s hq0 1 (by decide)) (eS1 hq0 _) rfl dX4_lastBusy_19 ?_
    refine G_iload_n (pc := 22) h.1 dX4_lastBusy_22 rfl 1 rfl ?_
    refine G_iald (pc := 23) h.1 (ids_s hq0 5 (by decide)) (eS5 hq0 _) dX4_lastBusy_23 ?_
    refine G_iadd (pc := 24) h.1 dX4_lastBusy_24 ?_
    refine G_goto (pc := 25) (tgt := 29) h.1 dX4_lastBusy_25 (by decide) ?_
    exact G_ret (pc := 29) h rfl dX4_lastBusy_29
theorem dX5_firstMeeting_0 : decode cX5_firstMeeting 0 = .ok (.iconst 0, 1) := by decide +kernel
theorem dX5_firstMeeting_1 : decode cX5_firstMeeting 1 = .ok (.istore 5, 2) := by decide +kernel
theorem dX5_firstMeeting_3 : decode cX5_firstMeeting 3 = .ok (.iload 5, 2) := by decide +kernel
theorem dX5_firstMeeting_5 : decode cX5_firstMeeting 5 = .ok (.aload_n 0, 1) := by decide +kernel
theorem dX5_firstMeeting_6 : decode cX5_firstMeeting 6 = .ok (.getfield 31, 3) := by decide +kernel
theorem dX5_firstMeeting_9 : decode cX5_firstMeeting 9 = .ok (.getfield 45, 3) := by decide +kernel
theorem dX5_firstMeeting_12 : decode cX5_firstMeeting 12 = .ok (.if_icmp .ge 77, 3) := by decide +kernel
theorem dX5_firstMeeting_15 : decode cX5_firstMeeting 15 = .ok (.iload 5, 2) := by decide +kernel
theorem dX5_firstMeeting_17 : decode cX5_firstMeeting 17 = .ok (.iload 4, 2) := by decide +kernel
theorem dX5_firstMeeting_19 : decode cX5_firstMeeting 19 = .ok (.if_icmp .eq 64, 3) := by decide +kernel
theorem dX5_firstMeeting_22 : decode cX5_firstMeeting 22 = .ok (.aload_n 0, 1) := by decide +kernel
theorem dX5_firstMeeting_23 : decode cX5_firstMeeting 23 = .ok (.getfield 31, 3) := by decide +kernel
theorem dX5_firstMeeting_26 : decode cX5_firstMeeting 26 = .ok (.iload 5, 2) := by decide +kernel
theorem dX5_firstMeeting_28 : decode cX5_firstMeeting 28 = .ok (.iload_n 1, 1) := by decide +kernel
theorem dX5_firstMeeting_29 : decode cX5_firstMeeting 29 = .ok (.invokevirtual 48, 3) := by decide +kernel
theorem dX5_firstMeeting_32 : decode cX5_firstMeeting 32 = .ok (.ifCond .eq 51, 3) := by decide +kernel
theorem dX5_firstMeeting_35 : decode cX5_firstMeeting 35 = .ok (.aload_n 0, 1) := by decide +kernel
theorem dX5_firstMeeting_36 : decode cX5_firstMeeting 36 = .ok (.getfield 31, 3) := by decide +kernel
theorem dX5_firstMeeting_39 : decode cX5_firstMeeting 39 = .ok (.getfield 52, 3) := by decide +kernel
theorem dX5_firstMeeting_42 : decode cX5_firstMeeting 42 = .ok (.iload 5, 2) := by decide +kernel
theorem dX5_firstMeeting_44 : decode cX5_firstMeeting 44 = .ok (.iaload, 1) := by decide +kernel
theorem dX5_firstMeeting_45 : decode cX5_firstMeeting 45 = .ok (.iload_n 3, 1) := by decide +kernel
theorem dX5_firstMeeting_46 : decode cX5_firstMeeting 46 = .ok (.if_icmp .gt 37, 3) := by decide +kernel
theorem dX5_firstMeeting_49 : decode cX5_firstMeeting 49 = .ok (.aload_n 0, 1) := by decide +kernel
theorem dX5_firstMeeting_50 : decode cX5_firstMeeting 50 = .ok (.getfield 24, 3) := by decide +kernel
theorem dX5_firstMeeting_53 : decode cX5_firstMeeting 53 = .ok (.aload_n 0, 1) := by decide +kernel
theorem dX5_firstMeeting_54 : decode cX5_firstMeeting 54 = .ok (.getfield 31, 3) := by decide +kernel
theorem dX5_firstMeeting_57 : decode cX5_firstMeeting 57 = .ok (.getfield 56, 3) := by decide +kernel
theorem dX5_firstMeeting_60 : decode cX5_firstMeeting 60 = .ok (.iload 5, 2) := by decide +kernel
theorem dX5_firstMeeting_62 : decode cX5_firstMeeting 62 = .ok (.iaload, 1) := by decide +kernel
theorem dX5_firstMeeting_63 : decode cX5_firstMeeting 63 = .ok (.aload_n 0, 1) := by decide +kernel
theorem dX5_firstMeeting_64 : decode cX5_firstMeeting 64 = .ok (.getfield 31, 3) := by decide +kernel
theorem dX5_firstMeeting_67 : decode cX5_firstMeeting 67 = .ok (.getfield 52, 3) := by decide +kernel
theorem dX5_firstMeeting_70 : decode cX5_firstMeeting 70 = .ok (.iload 5, 2) := by decide +kernel
theorem dX5_firstMeeting_72 : decode cX5_firstMeeting 72 = .ok (.iaload, 1) := by decide +kernel
theorem dX5_firstMeeting_73 : decode cX5_firstMeeting 73 = .ok (.invokevirtual 59, 3) := by decide +kernel
theorem dX5_firstMeeting_76 : decode cX5_firstMeeting 76 = .ok (.iload_n 2, 1) := by decide +kernel
theorem dX5_firstMeeting_77 : decode cX5_firstMeeting 77 = .ok (.if_icmp .lt 6, 3) := by decide +kernel
theorem dX5_firstMeeting_80 : decode cX5_firstMeeting 80 = .ok (.iload 5, 2) := by decide +kernel
theorem dX5_firstMeeting_82 : decode cX5_firstMeeting 82 = .ok (.ireturn, 1) := by decide +kernel
theorem dX5_firstMeeting_83 : decode cX5_firstMeeting 83 = .ok (.iinc 5 1, 3) := by decide +kernel
theorem dX5_firstMeeting_86 : decode cX5_firstMeeting 86 = .ok (.goto (-83), 3) := by decide +kernel
theorem dX5_firstMeeting_89 : decode cX5_firstMeeting 89 = .ok (.iconst (-1), 1) := by decide +kernel
theorem dX5_firstMeeting_90 : decode cX5_firstMeeting 90 = .ok (.ireturn, 1) := by decide +kernel
abbrev rX5_firstMeeting : Room := { frames := 2, cells := 0, slots := 0, locals := 43 }
set_option maxRecDepth 20000 in
theorem gd_X5_firstMeeting_B83 {x : Cx} {y : Cy} (hy : Inj y) (h : OkM x y cX5_firstMeeting RX5 6 (some .int) rX5_firstMeeting) (q0 : Nat) (hq0 : q0 < 7) (kx1 : Mem → Ans) (kb : Int32 → Mem → Ans) (a1 : Int32) (a2 : Int32) (a3 : Int32) (a4 : Int32) (a5 : Int32) (hx1 : ∀ M0 : Mem, G x y 89 [] [] M0 (kx1 M0)) (hb : ∀ (b5 : Int32), ∀ M0 : Mem, G x y 3 [(0, .ref (y.2.1 (sI q0 0))), (1, .int a1), (2, .int a2), (3, .int a3), (4, .int a4), (5, .int b5)] [] M0 (kb b5 M0)) (M : Mem) : G x y 83 [(0, .ref (y.2.1 (sI q0 0))), (1, .int a1), (2, .int a2), (3, .int a3), (4, .int a4), (5, .int a5)] [] M (d_X5_firstMeeting_B83 q0 kx1 kb a1 a2 a3 a4 a5 M) := by
  unfold d_X5_firstMeeting_B83
  refine G_iinc (pc := 83) (v := a5 + (1)) h.1 h.2.1 (fun v1 => [(5, .int v1), (0, .ref (y.2.1 (sI q0 0))), (1, .int a1), (2, .int a2), (3, .int a3), (4, .int a4)]) dX5_firstMeeting_83 (by decide) 5 rfl rfl (fun _ => rfl) (fun v1 => ?_)
  refine G_goto (pc := 86) (tgt := 3) h.1 dX5_firstMeeting_86 (by decide) ?_
  exact G_sub [1, 2, 3, 4, 5, 0] rfl (hb v1 M)
set_option maxRecDepth 20000 in
theorem gd_X5_firstMeeting_L3_body {x : Cx} {y : Cy} (hy : Inj y) (h : OkM x y cX5_firstMeeting RX5 6 (some .int) rX5_firstMeeting) (q0 : Nat) (hq0 : q0 < 7) (a1 : Int32) (a2 : Int32) (a3 : Int32) (a4 : Int32) (kx1 : Mem → Ans) (hx1 : ∀ M0 : Mem, G x y 89 [] [] M0 (kx1 M0)) (kb : Int32 → Mem → Ans) (hb : ∀ (b5 : Int32), ∀ M0 : Mem, G x y 3 [(0, .ref (y.2.1 (sI q0 0))), (1, .int a1), (2, .int a2), (3, .int a3), (4, .int a4), (5, .int b5)] [] M0 (kb b5 M0)) (a5 : Int32) (M : Mem) : G x y 3 [(0, .ref (y.2.1 (sI q0 0))), (1, .int a1), (2, .int a2), (3, .int a3), (4, .int a4), (5, .int a5)] [] M (d_X5_firstMeeting_L3_body q0 a1 a2 a3 a4 kx1 kb a5 M) := by
  unfold d_X5_firstMeeting_L3_body
  refine G_iload (pc := 3) h.1 dX5_firstMeeting_3 5 rfl ?_
  refine G_aload_n (pc := 5) h.1 dX5_firstMeeting_5 rfl 0 rfl ?_
  refine G_get (pc := 6) (v := .ref (y.2.1 (sI q0 6))) h.1 fl_X5_31 (ids_s hq0 0 (by decide)) (eS0 hq0 _) rfl dX5_firstMeeting_6 ?_
  refine G_get (pc := 9) (v := .int (M (sI q0 6) 0)) h.1 fl_X5_45 (ids_s hq0 6 (by decide)) (eS6 hq0 _) rfl dX5_firstMeeting_9 ?_
  refine G_icmp_ge (pc := 12) (tgt := 89) h.1 dX5_firstMeeting_12 (by decide) ?_ ?_
  · exact G_sub [] rfl (hx1 M)
  · refine G_iload (pc := 15) h.1 dX5_firstMeeting_15 5 rfl ?_
    refine G_iload (pc := 17) h.1 dX5_firstMeeting_17 4 rfl ?_
    refine G_icmp_eq (pc := 19) (tgt := 83) h.1 dX5_firstMeeting_19 (by decide) ?_ ?_
    · exact G_sub [0, 1, 2, 3, 4, 5] rfl (gd_X5_firstMeeting_B83 hy h q0 hq0 kx1 kb a1 a2 a3 a4 a5 hx1 hb M)
    · refine G_aload_n (pc := 22) h.1 dX5_firstMeeting_22 rfl 0 rfl ?_
      refine G_get (pc := 23) (v := .ref (y.2.1 (sI q0 6))) h.1 fl_X5_31 (ids_s hq0 0 (by decide)) (eS0 hq0 _) rfl dX5_firstMeeting_23 ?_
      refine G_iload (pc := 26) h.1 dX5_firstMeeting_26 5 rfl ?_
      refine G_iload_n (pc := 28) h.1 dX5_firstMeeting_28 rfl 1 rfl ?_
      refine G_callV (pc := 29) (As := [.int a5, .int a1]) (rest := []) h.1 h.2.2.1 lk_X5_48 (ids_s hq0 6 (by decide)) (eS6 hq0 _) rfl rfl (c_X0_keepsBusy x.1.2.1 y hy q0 hq0 a5 a1 M) rfl rfl (Nat.le_of_ble_eq_true rfl) ⟨rfl, rfl, Nat.le_of_ble_eq_true rfl, Nat.le_of_ble_eq_true rfl⟩ dX5_firstMeeting_29 (fun r3 M2 => ?_)
      refine G_if_eq (pc := 32) (tgt := 83) h.1 dX5_firstMeeting_32 (by decide) ?_ ?_
      · exact G_sub [0, 1, 2, 3, 4, 5] rfl (gd_X5_firstMeeting_B83 hy h q0 hq0 kx1 kb a1 a2 a3 a4 a5 hx1 hb M2)
      · refine G_aload_n (pc := 35) h.1 dX5_firstMeeting_35 rfl 0 rfl ?_
        refine G_get (pc := 36) (v := .ref (y.2.1 (sI q0 6))) h.1 fl_X5_31 (ids_s hq0 0 (by decide)) (eS0 hq0 _) rfl dX5_firstMeeting_36 ?_
        refine G_get (pc := 39) (v := .ref (y.2.1 (sI q0 9))) h.1 fl_X5_52 (ids_s hq0 6 (by decide)) (eS6 hq0 _) rfl dX5_firstMeeting_39 ?_
        refine G_iload (pc := 42) h.1 dX5_firstMeeting_42 5 rfl ?_
        refine G_iald (pc := 44) h.1 (ids_s hq0 9 (by decide)) (eS9 hq0 _) dX5_firstMeeting_44 ?_
        refine G_iload_n (pc := 45) h.1 dX5_firstMeeting_45 rfl 3 rfl ?_
        refine G_icmp_gt (pc := 46) (tgt := 83) h.1 dX5_firstMeeting_46 (by decide) ?_ ?_
        · exact G_sub [0, 1, 2, 3, 4, 5] rfl (gd_X5_firstMeeting_B83 hy h q0 hq0 kx1 kb a1 a2 a3 a4 a5 hx1 hb M2)
        · refine G_aload_n (pc := 49) h.1 dX5_firstMeeting_49 rfl 0 rfl ?_
          refine G_get (pc := 50) (v := .ref (y.2.1 (sI q0 1))) h.1 fl_X5_24 (ids_s hq0 0 (by decide)) (eS0 hq0 _) rfl dX5_firstMeeting_50 ?_
          refine G_aload_n (pc := 53) h.1 dX5_firstMeeting_53 rfl 0 rfl ?_
          refine G_get (pc := 54) (v := .ref (y.2.1 (sI q0 6))) h.1 fl_X5_31 (ids_s hq0 0 (by decide)) (eS0 hq0 _) rfl dX5_firstMeeting_54 ?_
          refine G_get (pc := 57) (v := .ref (y.2.1 (sI q0 8))) h.1 fl_X5_56 (ids_s hq0 6 (by decide)) (eS6 hq0 _) rfl dX5_firstMeeting_57 ?_
          refine G_iload (pc := 60) h.1 dX5_firstMeeting_60 5 rfl ?_
          refine G_iald (pc := 62) h.1 (ids_s hq0 8 (by decide)) (eS8 hq0 _) dX5_firstMeeting_62 ?_
          refine G_aload_n (pc := 63) h.1 dX5_firstMeeting_63 rfl 0 rfl ?_
          refine G_get (pc := 64) (v := .ref (y.2.1 (sI q0 6))) h.1 fl_X5_31 (ids_s hq0 0 (by decide)) (eS0 hq0 _) rfl dX5_firstMeeting_64 ?_
          refine G_get (pc := 67) (v := .ref (y.2.1 (sI q0 9))) h.1 fl_X5_52 (ids_s hq0 6 (by decide)) (eS6 hq0 _) rfl dX5_firstMeeting_67 ?_
          refine G_iload (pc := 70) h.1 dX5_firstMeeting_70 5 rfl ?_
          refine G_iald (pc := 72) h.1 (ids_s hq0 9 (by decide)) (eS9 hq0 _) dX5_firstMeeting_72 ?_
          refine G_callV (pc := 73) (As := [.int (M2 (sI q0 8) (a5).toNatClampNeg), .int (M2 (sI q0 9) (a5).toNatClampNeg)]) (rest := []) h.1 h.2.2.1 lk_X5_59 (ids_s hq0 1 (by decide)) (eS1 hq0 _) rfl rfl (c_X4_lastBusy x.1.2.1 y hy q0 hq0 (M2 (sI q0 8) (a5).toNatClampNeg) (M2 (sI q0 9) (a5).toNatClampNeg) M2) rfl rfl (Nat.le_of_ble_eq_true rfl) ⟨rfl, rfl, Nat.le_of_ble_eq_true rfl, Nat.le_of_ble_eq_true rfl⟩ dX5_firstMeeting_73 (fun r5 M4 => ?_)
          refine G_iload_n (pc := 76) h.1 dX5_firstMeeting_76 rfl 2 rfl ?_
          refine G_icmp_lt (pc := 77) (tgt := 83) h.1 dX5_firstMeeting_77 (by decide) ?_ ?_
          · exact G_sub [0, 1, 2, 3, 4, 5] rfl (gd_X5_firstMeeting_B83 hy h q0 hq0 kx1 kb a1 a2 a3 a4 a5 hx1 hb M4)
          · refine G_iload (pc := 80) h.1 dX5_firstMeeting_80 5 rfl ?_
            exact G_ret (pc := 82) h rfl dX5_firstMeeting_82
set_option maxRecDepth 20000 in
theorem gd_X5_firstMeeting_L3 {x : Cx} {y : Cy} (hy : Inj y) (h : OkM x y cX5_firstMeeting RX5 6 (some .int) rX5_firstMeeting) (q0 : Nat) (hq0 : q0 < 7) (a1 : Int32) (a2 : Int32) (a3 : Int32) (a4 : Int32) (kx1 : Mem → Ans) (hx1 : ∀ M0 : Mem, G x y 89 [] [] M0 (kx1 M0)) : ∀ (n : Nat) (a5 : Int32) (M : Mem), G x y 3 [(0, .ref (y.2.1 (sI q0 0))), (1, .int a1), (2, .int a2), (3, .int a3), (4, .int a4), (5, .int a5)] [] M (d_X5_firstMeeting_L3 q0 a1 a2 a3 a4 kx1 n a5 M) := by
  intro n
  induction n with
  | zero => intro a5 M; exact G_none
  | succ n ih => intro a5 M; exact gd_X5_firstMeeting_L3_body hy h q0 hq0 a1 a2 a3 a4 kx1 hx1 _ ih a5 M
set_option maxRecDepth 20000 in
theorem c_X5_firstMeeting (l : Launch) (y : Cy) (hy : Inj y) (q0 : Nat) (hq0 : q0 < 7) (p1 : Int32) (p2 : Int32) (p3 : Int32) (p4 : Int32) (M : Mem) : CT l y yX5_firstMeeting cX5_firstMeeting 6 (some .int) rX5_firstMeeting [.ref (y.2.1 (sI q0 0)), .int p1, .int p2, .int p3, .int p4] M (d_X5_firstMeeting q0 p1 p2 p3 p4 M) := by
  refine CT_of (by decide) hy (Nat.le_of_ble_eq_true rfl) (fun x hxl h => ?_)
  show G x y 0 [(0, .ref (y.2.1 (sI q0 0))), (1, .int p1), (2, .int p2), (3, .int p3), (4, .int p4)] [] M _
  unfold d_X5_firstMeeting
  refine G_iconst (pc := 0) (v := (0)) h.1 dX5_firstMeeting_0 (by decide) ?_
  refine G_istore (pc := 1) h.1 h.2.1 [(5, .int (0 : Int32)), (0, .ref (y.2.1 (sI q0 0))), (1, .int p1), (2, .int p2), (3, .int p3), (4, .int p4)] dX5_firstMeeting_1 (by decide) rfl ?_
  refine G_sub [1, 2, 3, 4, 5, 0] rfl (gd_X5_firstMeeting_L3 hy h q0 hq0 p1 p2 p3 p4 _ (fun M6 => ?_) fuelN (0 : Int32) M)
  refine G_iconst (pc := 89) (v := (-1)) h.1 dX5_firstMeeting_89 (by decide) ?_
  exact G_ret (pc := 90) h rfl dX5_firstMeeting_90
theorem dX3_wasDoomed_0 : decode cX3_wasDoomed 0 = .ok (.iload_n 1, 1) := by decide +kernel
theorem dX3_wasDoomed_1 : decode cX3_wasDoomed 1 = .ok (.ifCond .lt 22, 3) := by decide +kernel
theorem dX3_wasDoomed_4 : decode cX3_wasDoomed 4 = .ok (.iload_n 1, 1) := by decide +kernel
theorem dX3_wasDoomed_5 : decode cX3_wasDoomed 5 = .ok (.bipush 60, 2) := by decide +kernel
theorem dX3_wasDoomed_7 : decode cX3_wasDoomed 7 = .ok (.if_icmp .ge 16, 3) := by decide +kernel
theorem dX3_wasDoomed_10 : decode cX3_wasDoomed 10 = .ok (.aload_n 0, 1) := by decide +kernel
theorem dX3_wasDoomed_11 : decode cX3_wasDoomed 11 = .ok (.getfield 18, 3) := by decide +kernel
theorem dX3_wasDoomed_14 : decode cX3_wasDoomed 14 = .ok (.iload_n 1, 1) := by decide +kernel
theorem dX3_wasDoomed_15 : decode cX3_wasDoomed 15 = .ok (.baload, 1) := by decide +kernel
theorem dX3_wasDoomed_16 : decode cX3_wasDoomed 16 = .ok (.ifCond .eq 7, 3) := by decide +kernel
theorem dX3_wasDoomed_19 : decode cX3_wasDoomed 19 = .ok (.iconst 1, 1) := by decide +kernel
theorem dX3_wasDoomed_20 : decode cX3_wasDoomed 20 = .ok (.goto 4, 3) := by decide +kernel
theorem dX3_wasDoomed_23 : decode cX3_wasDoomed 23 = .ok (.iconst 0, 1) := by decide +kernel
theorem dX3_wasDoomed_24 : decode cX3_wasDoomed 24 = .ok (.ireturn, 1) := by decide +kernel
abbrev rX3_wasDoomed : Room := { frames := 0, cells := 0, slots := 0, locals := 0 }
set_option maxRecDepth 20000 in
theorem c_X3_wasDoomed (l : Launch) (y : Cy) (hy : Inj y) (p1 : Int32) (M : Mem) : CT l y yX3_wasDoomed cX3_wasDoomed 2 (some .boolean) rX3_wasDoomed [.ref (y.2.1 132), .int p1] M (d_X3_wasDoomed p1 M) := by
  refine CT_of (by decide) hy (Nat.le_of_ble_eq_true rfl) (fun x hxl h => ?_)
  show G x y 0 [(0, .ref (y.2.1 132)), (1, .int p1)] [] M _
  unfold d_X3_wasDoomed
  refine G_iload_n (pc := 0) h.1 dX3_wasDoomed_0 rfl 1 rfl ?_
  refine G_if_lt (pc := 1) (tgt := 23) h.1 dX3_wasDoomed_1 (by decide) ?_ ?_
  · refine G_iconst (pc := 23) (v := (0)) h.1 dX3_wasDoomed_23 (by decide) ?_
    exact G_ret (pc := 24) h rfl dX3_wasDoomed_24
  · refine G_iload_n (pc := 4) h.1 dX3_wasDoomed_4 rfl 1 rfl ?_
    refine G_bipush (pc := 5) (v := (60)) h.1 dX3_wasDoomed_5 (by decide) ?_
    refine G_icmp_ge (pc := 7) (tgt := 23) h.1 dX3_wasDoomed_7 (by decide) ?_ ?_
    · refine G_iconst (pc := 23) (v := (0)) h.1 dX3_wasDoomed_23 (by decide) ?_
      exact G_ret (pc := 24) h rfl dX3_wasDoomed_24
    · refine G_aload_n (pc := 10) h.1 dX3_wasDoomed_10 rfl 0 rfl ?_
      refine G_get (pc := 11) (v := .ref (y.2.1 133)) h.1 fl_X3_18 lN132 (eM132 _) rfl dX3_wasDoomed_11 ?_
      refine G_iload_n (pc := 14) h.1 dX3_wasDoomed_14 rfl 1 rfl ?_
      refine G_zald (pc := 15) h.1 lN133 (eM133 _) dX3_wasDoomed_15 ?_
      refine G_if_eq (pc := 16) (tgt := 23) h.1 dX3_wasDoomed_16 (by decide) ?_ ?_
      · refine G_iconst (pc := 23) (v := (0)) h.1 dX3_wasDoomed_23 (by decide) ?_
        exact G_ret (pc := 24) h rfl dX3_wasDoomed_24
      · refine G_iconst (pc := 19) (v := (1)) h.1 dX3_wasDoomed_19 (by decide) ?_
        refine G_goto (pc := 20) (tgt := 24) h.1 dX3_wasDoomed_20 (by decide) ?_
        exact G_ret (pc := 24) h rfl dX3_wasDoomed_24
theorem dX3_reasonByOthers_0 : decode cX3_reasonByOthers 0 = .ok (.iconst 0, 1) := by decide +kernel
theorem dX3_reasonByOthers_1 : decode cX3_reasonByOthers 1 = .ok (.istore_n 2, 1) := by decide +kernel
theorem dX3_reasonByOthers_2 : decode cX3_reasonByOthers 2 = .ok (.iload_n 2, 1) := by decide +kernel
theorem dX3_reasonByOthers_3 : decode cX3_reasonByOthers 3 = .ok (.aload_n 0, 1) := by decide +kernel
theorem dX3_reasonByOthers_4 : decode cX3_reasonByOthers 4 = .ok (.getfield 12, 3) := by decide +kernel
theorem dX3_reasonByOthers_7 : decode cX3_reasonByOthers 7 = .ok (.getfield 52, 3) := by decide +kernel
theorem dX3_reasonByOthers_10 : decode cX3_reasonByOthers 10 = .ok (.if_icmp .ge 65, 3) := by decide +kernel
theorem dX3_reasonByOthers_13 : decode cX3_reasonByOthers 13 = .ok (.aload_n 0, 1) := by decide +kernel
theorem dX3_reasonByOthers_14 : decode cX3_reasonByOthers 14 = .ok (.getfield 12, 3) := by decide +kernel
theorem dX3_reasonByOthers_17 : decode cX3_reasonByOthers 17 = .ok (.getfield 55, 3) := by decide +kernel
theorem dX3_reasonByOthers_20 : decode cX3_reasonByOthers 20 = .ok (.iload_n 2, 1) := by decide +kernel
theorem dX3_reasonByOthers_21 : decode cX3_reasonByOthers 21 = .ok (.iaload, 1) := by decide +kernel
theorem dX3_reasonByOthers_22 : decode cX3_reasonByOthers 22 = .ok (.istore_n 3, 1) := by decide +kernel
theorem dX3_reasonByOthers_23 : decode cX3_reasonByOthers 23 = .ok (.iload_n 3, 1) := by decide +kernel
theorem dX3_reasonByOthers_24 : decode cX3_reasonByOthers 24 = .ok (.iload_n 1, 1) := by decide +kernel
theorem dX3_reasonByOthers_25 : decode cX3_reasonByOthers 25 = .ok (.if_icmp .eq 44, 3) := by decide +kernel
theorem dX3_reasonByOthers_28 : decode cX3_reasonByOthers 28 = .ok (.aload_n 0, 1) := by decide +kernel
theorem dX3_reasonByOthers_29 : decode cX3_reasonByOthers 29 = .ok (.getfield 12, 3) := by decide +kernel
theorem dX3_reasonByOthers_32 : decode cX3_reasonByOthers 32 = .ok (.getfield 59, 3) := by decide +kernel
theorem dX3_reasonByOthers_35 : decode cX3_reasonByOthers 35 = .ok (.iload_n 2, 1) := by decide +kernel
theorem dX3_reasonByOthers_36 : decode cX3_reasonByOthers 36 = .ok (.iaload, 1) := by decide +kernel
theorem dX3_reasonByOthers_37 : decode cX3_reasonByOthers 37 = .ok (.iconst 3, 1) := by decide +kernel
theorem dX3_reasonByOthers_38 : decode cX3_reasonByOthers 38 = .ok (.if_icmp .ne 31, 3) := by decide +kernel
theorem dX3_reasonByOthers_41 : decode cX3_reasonByOthers 41 = .ok (.aload_n 0, 1) := by decide +kernel
theorem dX3_reasonByOthers_42 : decode cX3_reasonByOthers 42 = .ok (.iload_n 3, 1) := by decide +kernel
theorem dX3_reasonByOthers_43 : decode cX3_reasonByOthers 43 = .ok (.invokevirtual 90, 3) := by decide +kernel
theorem dX3_reasonByOthers_46 : decode cX3_reasonByOthers 46 = .ok (.ifCond .ne 23, 3) := by decide +kernel
theorem dX3_reasonByOthers_49 : decode cX3_reasonByOthers 49 = .ok (.aload_n 0, 1) := by decide +kernel
theorem dX3_reasonByOthers_50 : decode cX3_reasonByOthers 50 = .ok (.iload_n 3, 1) := by decide +kernel
theorem dX3_reasonByOthers_51 : decode cX3_reasonByOthers 51 = .ok (.putfield 78, 3) := by decide +kernel
theorem dX3_reasonByOthers_54 : decode cX3_reasonByOthers 54 = .ok (.aload_n 0, 1) := by decide +kernel
theorem dX3_reasonByOthers_55 : decode cX3_reasonByOthers 55 = .ok (.aload_n 0, 1) := by decide +kernel
theorem dX3_reasonByOthers_56 : decode cX3_reasonByOthers 56 = .ok (.getfield 12, 3) := by decide +kernel
theorem dX3_reasonByOthers_59 : decode cX3_reasonByOthers 59 = .ok (.getfield 85, 3) := by decide +kernel
theorem dX3_reasonByOthers_62 : decode cX3_reasonByOthers 62 = .ok (.iload_n 2, 1) := by decide +kernel
theorem dX3_reasonByOthers_63 : decode cX3_reasonByOthers 63 = .ok (.iaload, 1) := by decide +kernel
theorem dX3_reasonByOthers_64 : decode cX3_reasonByOthers 64 = .ok (.putfield 62, 3) := by decide +kernel
theorem dX3_reasonByOthers_67 : decode cX3_reasonByOthers 67 = .ok (.iconst 3, 1) := by decide +kernel
theorem dX3_reasonByOthers_68 : decode cX3_reasonByOthers 68 = .ok (.ireturn, 1) := by decide +kernel
theorem dX3_reasonByOthers_69 : decode cX3_reasonByOthers 69 = .ok (.iinc 2 1, 3) := by decide +kernel
theorem dX3_reasonByOthers_72 : decode cX3_reasonByOthers 72 = .ok (.goto (-70), 3) := by decide +kernel
theorem dX3_reasonByOthers_75 : decode cX3_reasonByOthers 75 = .ok (.iconst 0, 1) := by decide +kernel
theorem dX3_reasonByOthers_76 : decode cX3_reasonByOthers 76 = .ok (.ireturn, 1) := by decide +kernel
abbrev rX3_reasonByOthers : Room := { frames := 1, cells := 0, slots := 0, locals := 21 }
set_option maxRecDepth 20000 in
theorem gd_X3_reasonByOthers_B69 {x : Cx} {y : Cy} (hy : Inj y) (h : OkM x y cX3_reasonByOthers RX3 4 (some .int) rX3_reasonByOthers) (kx1 : Mem → Ans) (kb : Int32 → Mem → Ans) (a1 : Int32) (a2 : Int32) (hx1 : ∀ M0 : Mem, G x y 75 [] [] M0 (kx1 M0)) (hb : ∀ (b2 : Int32), ∀ M0 : Mem, G x y 2 [(0, .ref (y.2.1 132)), (1, .int a1), (2, .int b2)] [] M0 (kb b2 M0)) (M : Mem) : G x y 69 [(0, .ref (y.2.1 132)), (1, .int a1), (2, .int a2)] [] M (d_X3_reasonByOthers_B69 kx1 kb a1 a2 M) := by
  unfold d_X3_reasonByOthers_B69
  refine G_iinc (pc := 69) (v := a2 + (1)) h.1 h.2.1 (fun v2 => [(2, .int v2), (0, .ref (y.2.1 132)), (1, .int a1)]) dX3_reasonByOthers_69 (by decide) 2 rfl rfl (fun _ => rfl) (fun v2 => ?_)
  refine G_goto (pc := 72) (tgt := 2) h.1 dX3_reasonByOthers_72 (by decide) ?_
  exact G_sub [1, 2, 0] rfl (hb v2 M)
set_option maxRecDepth 20000 in
theorem gd_X3_reasonByOthers_L2_body {x : Cx} {y : Cy} (hy : Inj y) (h : OkM x y cX3_reasonByOthers RX3 4 (some .int) rX3_reasonByOthers) (a1 : Int32) (kx1 : Mem → Ans) (hx1 : ∀ M0 : Mem, G x y 75 [] [] M0 (kx1 M0)) (kb : Int32 → Mem → Ans) (hb : ∀ (b2 : Int32), ∀ M0 : Mem, G x y 2 [(0, .ref (y.2.1 132)), (1, .int a1), (2, .int b2)] [] M0 (kb b2 M0)) (a2 : Int32) (M : Mem) : G x y 2 [(0, .ref (y.2.1 132)), (1, .int a1), (2, .int a2)] [] M (d_X3_reasonByOthers_L2_body a1 kx1 kb a2 M) := by
  unfold d_X3_reasonByOthers_L2_body
  refine G_iload_n (pc := 2) h.1 dX3_reasonByOthers_2 rfl 2 rfl ?_
  refine G_aload_n (pc := 3) h.1 dX3_reasonByOthers_3 rfl 0 rfl ?_
  refine G_get (pc := 4) (v := .ref (y.2.1 (cI 1 0))) h.1 fl_X3_12 lN132 (eM132 _) rfl dX3_reasonByOthers_4 ?_
  refine G_get (pc := 7) (v := .int (M (cI 1 0) 6)) h.1 fl_X3_52 (ids_c h2_1 0 (by decide)) (eC0 h2_1 _) rfl dX3_reasonByOthers_7 ?_
  refine G_icmp_ge (pc := 10) (tgt := 75) h.1 dX3_reasonByOthers_10 (by decide) ?_ ?_
  · exact G_sub [] rfl (hx1 M)
  · refine G_aload_n (pc := 13) h.1 dX3_reasonByOthers_13 rfl 0 rfl ?_
    refine G_get (pc := 14) (v := .ref (y.2.1 (cI 1 0))) h.1 fl_X3_12 lN132 (eM132 _) rfl dX3_reasonByOthers_14 ?_
    refine G_get (pc := 17) (v := .ref (y.2.1 (cI 1 1))) h.1 fl_X3_55 (ids_c h2_1 0 (by decide)) (eC0 h2_1 _) rfl dX3_reasonByOthers_17 ?_
    refine G_iload_n (pc := 20) h.1 dX3_reasonByOthers_20 rfl 2 rfl ?_
    refine G_iald (pc := 21) h.1 (ids_c h2_1 1 (by decide)) (eC1 h2_1 _) dX3_reasonByOthers_21 ?_
    refine G_top (fun v1 => ?_)
    refine G_istore_n (pc := 22) h.1 h.2.1 [(3, .int v1), (0, .ref (y.2.1 132)), (1, .int a1), (2, .int a2)] dX3_reasonByOthers_22 rfl (by decide) rfl ?_
    refine G_iload_n (pc := 23) h.1 dX3_reasonByOthers_23 rfl 0 rfl ?_
    refine G_iload_n (pc := 24) h.1 dX3_reasonByOthers_24 rfl 2 rfl ?_
    refine G_icmp_eq (pc := 25) (tgt := 69) h.1 dX3_reasonByOthers_25 (by decide) ?_ ?_
    · exact G_sub [1, 2, 3] rfl (gd_X3_reasonByOthers_B69 hy h kx1 kb a1 a2 hx1 hb M)
    · refine G_aload_n (pc := 28) h.1 dX3_reasonByOthers_28 rfl 1 rfl ?_
      refine G_get (pc := 29) (v := .ref (y.2.1 (cI 1 0))) h.1 fl_X3_12 lN132 (eM132 _) rfl dX3_reasonByOthers_29 ?_
      refine G_get (pc := 32) (v := .ref (y.2.1 (cI 1 2))) h.1 fl_X3_59 (ids_c h2_1 0 (by decide)) (eC0 h2_1 _) rfl dX3_reasonByOthers_32 ?_
      refine G_iload_n (pc := 35) h.1 dX3_reasonByOthers_35 rfl 3 rfl ?_
      refine G_iald (pc := 36) h.1 (ids_c h2_1 2 (by decide)) (eC2 h2_1 _) dX3_reasonByOthers_36 ?_
      refine G_iconst (pc := 37) (v := (3)) h.1 dX3_reasonByOthers_37 (by decide) ?_
      refine G_icmp_ne (pc := 38) (tgt := 69) h.1 dX3_reasonByOthers_38 (by decide) ?_ ?_
      · exact G_sub [1, 2, 3] rfl (gd_X3_reasonByOthers_B69 hy h kx1 kb a1 a2 hx1 hb M)
      · refine G_aload_n (pc := 41) h.1 dX3_reasonByOthers_41 rfl 1 rfl ?_
        refine G_iload_n (pc := 42) h.1 dX3_reasonByOthers_42 rfl 0 rfl ?_
        refine G_callV (pc := 43) (As := [.int v1]) (rest := []) h.1 h.2.2.1 lk_X3_90 lN132 (eM132 _) rfl rfl (c_X3_wasDoomed x.1.2.1 y hy v1 M) rfl rfl (Nat.le_of_ble_eq_true rfl) ⟨rfl, rfl, Nat.le_of_ble_eq_true rfl, Nat.le_of_ble_eq_true rfl⟩ dX3_reasonByOthers_43 (fun r4 M3 => ?_)
        refine G_if_ne (pc := 46) (tgt := 69) h.1 dX3_reasonByOthers_46 (by decide) ?_ ?_
        · exact G_sub [1, 2, 3] rfl (gd_X3_reasonByOthers_B69 hy h kx1 kb a1 a2 hx1 hb M3)
        · refine G_aload_n (pc := 49) h.1 dX3_reasonByOthers_49 rfl 1 rfl ?_
          refine G_iload_n (pc := 50) h.1 dX3_reasonByOthers_50 rfl 0 rfl ?_
          refine G_put (pc := 51) h.1 fp_X3_78 lN132 (fun m => eM132 m) (fun _ => rfl) (fun _ => Nat.le_of_ble_eq_true rfl) rfl rfl dX3_reasonByOthers_51 (fun M5 => ?_)
          refine G_aload_n (pc := 54) h.1 dX3_reasonByOthers_54 rfl 1 rfl ?_
          refine G_aload_n (pc := 55) h.1 dX3_reasonByOthers_55 rfl 1 rfl ?_
          refine G_get (pc := 56) (v := .ref (y.2.1 (cI 1 0))) h.1 fl_X3_12 lN132 (eM132 _) rfl dX3_reasonByOthers_56 ?_
          refine G_get (pc := 59) (v := .ref (y.2.1 (cI 1 4))) h.1 fl_X3_85 (ids_c h2_1 0 (by decide)) (eC0 h2_1 _) rfl dX3_reasonByOthers_59 ?_
          refine G_iload_n (pc := 62) h.1 dX3_reasonByOthers_62 rfl 3 rfl ?_
          refine G_iald (pc := 63) h.1 (ids_c h2_1 4 (by decide)) (eC4 h2_1 _) dX3_reasonByOthers_63 ?_
          refine G_put (pc := 64) h.1 fp_X3_62 lN132 (fun m => eM132 m) (fun _ => rfl) (fun _ => Nat.le_of_ble_eq_true rfl) rfl rfl dX3_reasonByOthers_64 (fun M6 => ?_)
          refine G_iconst (pc := 67) (v := (3)) h.1 dX3_reasonByOthers_67 (by decide) ?_
          exact G_ret (pc := 68) h rfl dX3_reasonByOthers_68
set_option maxRecDepth 20000 in
theorem gd_X3_reasonByOthers_L2 {x : Cx} {y : Cy} (hy : Inj y) (h : OkM x y cX3_reasonByOthers RX3 4 (some .int) rX3_reasonByOthers) (a1 : Int32) (kx1 : Mem → Ans) (hx1 : ∀ M0 : Mem, G x y 75 [] [] M0 (kx1 M0)) : ∀ (n : Nat) (a2 : Int32) (M : Mem), G x y 2 [(0, .ref (y.2.1 132)), (1, .int a1), (2, .int a2)] [] M (d_X3_reasonByOthers_L2 a1 kx1 n a2 M) := by
  intro n
  induction n with
  | zero => intro a2 M; exact G_none
  | succ n ih => intro a2 M; exact gd_X3_reasonByOthers_L2_body hy h a1 kx1 hx1 _ ih a2 M
set_option maxRecDepth 20000 in
theorem c_X3_reasonByOthers (l : Launch) (y : Cy) (hy : Inj y) (p1 : Int32) (M : Mem) : CT l y yX3_reasonByOthers cX3_reasonByOthers 4 (some .int) rX3_reasonByOthers [.ref (y.2.1 132), .int p1] M (d_X3_reasonByOthers p1 M) := by
  refine CT_of (by decide) hy (Nat.le_of_ble_eq_true rfl) (fun x hxl h => ?_)
  show G x y 0 [(0, .ref (y.2.1 132)), (1, .int p1)] [] M _
  unfold d_X3_reasonByOthers
  refine G_iconst (pc := 0) (v := (0)) h.1 dX3_reasonByOthers_0 (by decide) ?_
  refine G_istore_n (pc := 1) h.1 h.2.1 [(2, .int (0 : Int32)), (0, .ref (y.2.1 132)), (1, .int p1)] dX3_reasonByOthers_1 rfl (by decide) rfl ?_
  refine G_sub [1, 2, 0] rfl (gd_X3_reasonByOthers_L2 hy h p1 _ (fun M7 => ?_) fuelN (0 : Int32) M)
  refine G_iconst (pc := 75) (v := (0)) h.1 dX3_reasonByOthers_75 (by decide) ?_
  exact G_ret (pc := 76) h rfl dX3_reasonByOthers_76
theorem dX3_reasonNow_0 : decode cX3_reasonNow 0 = .ok (.aload_n 0, 1) := by decide +kernel
theorem dX3_reasonNow_1 : decode cX3_reasonNow 1 = .ok (.bipush (-5), 2) := by decide +kernel
theorem dX3_reasonNow_3 : decode cX3_reasonNow 3 = .ok (.putfield 62, 3) := by decide +kernel
theorem dX3_reasonNow_6 : decode cX3_reasonNow 6 = .ok (.aload_n 0, 1) := by decide +kernel
theorem dX3_reasonNow_7 : decode cX3_reasonNow 7 = .ok (.aload_n 1, 1) := by decide +kernel
theorem dX3_reasonNow_8 : decode cX3_reasonNow 8 = .ok (.iload_n 3, 1) := by decide +kernel
theorem dX3_reasonNow_9 : decode cX3_reasonNow 9 = .ok (.iload 5, 2) := by decide +kernel
theorem dX3_reasonNow_11 : decode cX3_reasonNow 11 = .ok (.aload_n 1, 1) := by decide +kernel
theorem dX3_reasonNow_12 : decode cX3_reasonNow 12 = .ok (.getfield 65, 3) := by decide +kernel
theorem dX3_reasonNow_15 : decode cX3_reasonNow 15 = .ok (.iload 4, 2) := by decide +kernel
theorem dX3_reasonNow_17 : decode cX3_reasonNow 17 = .ok (.iload 5, 2) := by decide +kernel
theorem dX3_reasonNow_19 : decode cX3_reasonNow 19 = .ok (.invokevirtual 69, 3) := by decide +kernel
theorem dX3_reasonNow_22 : decode cX3_reasonNow 22 = .ok (.iload_n 2, 1) := by decide +kernel
theorem dX3_reasonNow_23 : decode cX3_reasonNow 23 = .ok (.invokevirtual 74, 3) := by decide +kernel
theorem dX3_reasonNow_26 : decode cX3_reasonNow 26 = .ok (.putfield 78, 3) := by decide +kernel
theorem dX3_reasonNow_29 : decode cX3_reasonNow 29 = .ok (.aload_n 0, 1) := by decide +kernel
theorem dX3_reasonNow_30 : decode cX3_reasonNow 30 = .ok (.getfield 78, 3) := by decide +kernel
theorem dX3_reasonNow_33 : decode cX3_reasonNow 33 = .ok (.iconst (-1), 1) := by decide +kernel
theorem dX3_reasonNow_34 : decode cX3_reasonNow 34 = .ok (.if_icmp .eq 5, 3) := by decide +kernel
theorem dX3_reasonNow_37 : decode cX3_reasonNow 37 = .ok (.iconst 1, 1) := by decide +kernel
theorem dX3_reasonNow_38 : decode cX3_reasonNow 38 = .ok (.ireturn, 1) := by decide +kernel
theorem dX3_reasonNow_39 : decode cX3_reasonNow 39 = .ok (.aload_n 0, 1) := by decide +kernel
theorem dX3_reasonNow_40 : decode cX3_reasonNow 40 = .ok (.bipush (-5), 2) := by decide +kernel
theorem dX3_reasonNow_42 : decode cX3_reasonNow 42 = .ok (.putfield 78, 3) := by decide +kernel
theorem dX3_reasonNow_45 : decode cX3_reasonNow 45 = .ok (.aload_n 0, 1) := by decide +kernel
theorem dX3_reasonNow_46 : decode cX3_reasonNow 46 = .ok (.getfield 12, 3) := by decide +kernel
theorem dX3_reasonNow_49 : decode cX3_reasonNow 49 = .ok (.aload_n 1, 1) := by decide +kernel
theorem dX3_reasonNow_50 : decode cX3_reasonNow 50 = .ok (.iload_n 2, 1) := by decide +kernel
theorem dX3_reasonNow_51 : decode cX3_reasonNow 51 = .ok (.iload 4, 2) := by decide +kernel
theorem dX3_reasonNow_53 : decode cX3_reasonNow 53 = .ok (.iload 5, 2) := by decide +kernel
theorem dX3_reasonNow_55 : decode cX3_reasonNow 55 = .ok (.invokevirtual 45, 3) := by decide +kernel
theorem dX3_reasonNow_58 : decode cX3_reasonNow 58 = .ok (.aload_n 0, 1) := by decide +kernel
theorem dX3_reasonNow_59 : decode cX3_reasonNow 59 = .ok (.getfield 12, 3) := by decide +kernel
theorem dX3_reasonNow_62 : decode cX3_reasonNow 62 = .ok (.invokevirtual 49, 3) := by decide +kernel
theorem dX3_reasonNow_65 : decode cX3_reasonNow 65 = .ok (.aload_n 0, 1) := by decide +kernel
theorem dX3_reasonNow_66 : decode cX3_reasonNow 66 = .ok (.getfield 12, 3) := by decide +kernel
theorem dX3_reasonNow_69 : decode cX3_reasonNow 69 = .ok (.iload_n 2, 1) := by decide +kernel
theorem dX3_reasonNow_70 : decode cX3_reasonNow 70 = .ok (.invokevirtual 81, 3) := by decide +kernel
theorem dX3_reasonNow_73 : decode cX3_reasonNow 73 = .ok (.istore 6, 2) := by decide +kernel
theorem dX3_reasonNow_75 : decode cX3_reasonNow 75 = .ok (.iload 6, 2) := by decide +kernel
theorem dX3_reasonNow_77 : decode cX3_reasonNow 77 = .ok (.iconst (-1), 1) := by decide +kernel
theorem dX3_reasonNow_78 : decode cX3_reasonNow 78 = .ok (.if_icmp .eq 33, 3) := by decide +kernel
theorem dX3_reasonNow_81 : decode cX3_reasonNow 81 = .ok (.aload_n 0, 1) := by decide +kernel
theorem dX3_reasonNow_82 : decode cX3_reasonNow 82 = .ok (.getfield 12, 3) := by decide +kernel
theorem dX3_reasonNow_85 : decode cX3_reasonNow 85 = .ok (.getfield 59, 3) := by decide +kernel
theorem dX3_reasonNow_88 : decode cX3_reasonNow 88 = .ok (.iload 6, 2) := by decide +kernel
theorem dX3_reasonNow_90 : decode cX3_reasonNow 90 = .ok (.iaload, 1) := by decide +kernel
theorem dX3_reasonNow_91 : decode cX3_reasonNow 91 = .ok (.iconst 3, 1) := by decide +kernel
theorem dX3_reasonNow_92 : decode cX3_reasonNow 92 = .ok (.if_icmp .ne 19, 3) := by decide +kernel
theorem dX3_reasonNow_95 : decode cX3_reasonNow 95 = .ok (.aload_n 0, 1) := by decide +kernel
theorem dX3_reasonNow_96 : decode cX3_reasonNow 96 = .ok (.aload_n 0, 1) := by decide +kernel
theorem dX3_reasonNow_97 : decode cX3_reasonNow 97 = .ok (.getfield 12, 3) := by decide +kernel
theorem dX3_reasonNow_100 : decode cX3_reasonNow 100 = .ok (.getfield 85, 3) := by decide +kernel
theorem dX3_reasonNow_103 : decode cX3_reasonNow 103 = .ok (.iload 6, 2) := by decide +kernel
theorem dX3_reasonNow_105 : decode cX3_reasonNow 105 = .ok (.iaload, 1) := by decide +kernel
theorem dX3_reasonNow_106 : decode cX3_reasonNow 106 = .ok (.putfield 62, 3) := by decide +kernel
theorem dX3_reasonNow_109 : decode cX3_reasonNow 109 = .ok (.iconst 2, 1) := by decide +kernel
theorem dX3_reasonNow_110 : decode cX3_reasonNow 110 = .ok (.ireturn, 1) := by decide +kernel
theorem dX3_reasonNow_111 : decode cX3_reasonNow 111 = .ok (.aload_n 0, 1) := by decide +kernel
theorem dX3_reasonNow_112 : decode cX3_reasonNow 112 = .ok (.iload_n 2, 1) := by decide +kernel
theorem dX3_reasonNow_113 : decode cX3_reasonNow 113 = .ok (.invokevirtual 87, 3) := by decide +kernel
theorem dX3_reasonNow_116 : decode cX3_reasonNow 116 = .ok (.ireturn, 1) := by decide +kernel
abbrev rX3_reasonNow : Room := { frames := 3, cells := 0, slots := 0, locals := 71 }
set_option maxRecDepth 20000 in
theorem gd_X3_reasonNow_B111 {x : Cx} {y : Cy} (hy : Inj y) (h : OkM x y cX3_reasonNow RX3 7 (some .int) rX3_reasonNow) (q1 : Nat) (hq1 : q1 < 7) (a2 : Int32) (M : Mem) : G x y 111 [(0, .ref (y.2.1 132)), (2, .int a2)] [] M (d_X3_reasonNow_B111 q1 a2 M) := by
  unfold d_X3_reasonNow_B111
  refine G_aload_n (pc := 111) h.1 dX3_reasonNow_111 rfl 0 rfl ?_
  refine G_iload_n (pc := 112) h.1 dX3_reasonNow_112 rfl 1 rfl ?_
  refine G_callV (pc := 113) (As := [.int a2]) (rest := []) h.1 h.2.2.1 lk_X3_87 lN132 (eM132 _) rfl rfl (c_X3_reasonByOthers x.1.2.1 y hy a2 M) rfl rfl (Nat.le_of_ble_eq_true rfl) ⟨rfl, rfl, Nat.le_of_ble_eq_true rfl, Nat.le_of_ble_eq_true rfl⟩ dX3_reasonNow_113 (fun r15 M14 => ?_)
  exact G_ret (pc := 116) h rfl dX3_reasonNow_116
set_option maxRecDepth 20000 in
theorem c_X3_reasonNow (l : Launch) (y : Cy) (hy : Inj y) (q1 : Nat) (hq1 : q1 < 7) (p2 : Int32) (p3 : Int32) (p4 : Int32) (p5 : Int32) (M : Mem) : CT l y yX3_reasonNow cX3_reasonNow 7 (some .int) rX3_reasonNow [.ref (y.2.1 132), .ref (y.2.1 (sI q1 0)), .int p2, .int p3, .int p4, .int p5] M (d_X3_reasonNow q1 p2 p3 p4 p5 M) := by
  refine CT_of (by decide) hy (Nat.le_of_ble_eq_true rfl) (fun x hxl h => ?_)
  show G x y 0 [(0, .ref (y.2.1 132)), (1, .ref (y.2.1 (sI q1 0))), (2, .int p2), (3, .int p3), (4, .int p4), (5, .int p5)] [] M _
  unfold d_X3_reasonNow
  refine G_aload_n (pc := 0) h.1 dX3_reasonNow_0 rfl 0 rfl ?_
  refine G_bipush (pc := 1) (v := (-5)) h.1 dX3_reasonNow_1 (by decide) ?_
  refine G_put (pc := 3) h.1 fp_X3_62 lN132 (fun m => eM132 m) (fun _ => rfl) (fun _ => Nat.le_of_ble_eq_true rfl) rfl rfl dX3_reasonNow_3 (fun M1 => ?_)
  refine G_aload_n (pc := 6) h.1 dX3_reasonNow_6 rfl 0 rfl ?_
  refine G_aload_n (pc := 7) h.1 dX3_reasonNow_7 rfl 1 rfl ?_
  refine G_iload_n (pc := 8) h.1 dX3_reasonNow_8 rfl 3 rfl ?_
  refine G_iload (pc := 9) h.1 dX3_reasonNow_9 5 rfl ?_
  refine G_aload_n (pc := 11) h.1 dX3_reasonNow_11 rfl 1 rfl ?_
  refine G_get (pc := 12) (v := .ref (y.2.1 (sI q1 1))) h.1 fl_X3_65 (ids_s hq1 0 (by decide)) (eS0 hq1 _) rfl dX3_reasonNow_12 ?_
  refine G_iload (pc := 15) h.1 dX3_reasonNow_15 4 rfl ?_
  refine G_iload (pc := 17) h.1 dX3_reasonNow_17 5 rfl ?_
  refine G_callV (pc := 19) (As := [.int p4, .int p5]) (rest := [.int p5, .int p3, .ref (y.2.1 (sI q1 0)), .ref (y.2.1 132)]) h.1 h.2.2.1 lk_X3_69 (ids_s hq1 1 (by decide)) (eS1 hq1 _) rfl rfl (c_X4_lastBusy x.1.2.1 y hy q1 hq1 p4 p5 M1) rfl rfl (Nat.le_of_ble_eq_true rfl) ⟨rfl, rfl, Nat.le_of_ble_eq_true rfl, Nat.le_of_ble_eq_true rfl⟩ dX3_reasonNow_19 (fun r3 M2 => ?_)
  refine G_iload_n (pc := 22) h.1 dX3_reasonNow_22 rfl 2 rfl ?_
  refine G_callV (pc := 23) (As := [.int p3, .int p5, .int r3, .int p2]) (rest := [.ref (y.2.1 132)]) h.1 h.2.2.1 lk_X3_74 (ids_s hq1 0 (by decide)) (eS0 hq1 _) rfl rfl (c_X5_firstMeeting x.1.2.1 y hy q1 hq1 p3 p5 r3 p2 M2) rfl rfl (Nat.le_of_ble_eq_true rfl) ⟨rfl, rfl, Nat.le_of_ble_eq_true rfl, Nat.le_of_ble_eq_true rfl⟩ dX3_reasonNow_23 (fun r5 M4 => ?_)
  refine G_put (pc := 26) h.1 fp_X3_78 lN132 (fun m => eM132 m) (fun _ => rfl) (fun _ => Nat.le_of_ble_eq_true rfl) rfl rfl dX3_reasonNow_26 (fun M6 => ?_)
  refine G_aload_n (pc := 29) h.1 dX3_reasonNow_29 rfl 0 rfl ?_
  refine G_get (pc := 30) (v := .int (M6 132 2)) h.1 fl_X3_78 lN132 (eM132 _) rfl dX3_reasonNow_30 ?_
  refine G_iconst (pc := 33) (v := (-1)) h.1 dX3_reasonNow_33 (by decide) ?_
  refine G_icmp_eq (pc := 34) (tgt := 39) h.1 dX3_reasonNow_34 (by decide) ?_ ?_
  · refine G_aload_n (pc := 39) h.1 dX3_reasonNow_39 rfl 0 rfl ?_
    refine G_bipush (pc := 40) (v := (-5)) h.1 dX3_reasonNow_40 (by decide) ?_
    refine G_put (pc := 42) h.1 fp_X3_78 lN132 (fun m => eM132 m) (fun _ => rfl) (fun _ => Nat.le_of_ble_eq_true rfl) rfl rfl dX3_reasonNow_42 (fun M7 => ?_)
    refine G_aload_n (pc := 45) h.1 dX3_reasonNow_45 rfl 0 rfl ?_
    refine G_get (pc := 46) (v := .ref (y.2.1 (cI 1 0))) h.1 fl_X3_12 lN132 (eM132 _) rfl dX3_reasonNow_46 ?_
    refine G_aload_n (pc := 49) h.1 dX3_reasonNow_49 rfl 1 rfl ?_
    refine G_iload_n (pc := 50) h.1 dX3_reasonNow_50 rfl 2 rfl ?_
    refine G_iload (pc := 51) h.1 dX3_reasonNow_51 4 rfl ?_
    refine G_iload (pc := 53) h.1 dX3_reasonNow_53 5 rfl ?_
    refine G_callVv (pc := 55) (As := [.ref (y.2.1 (sI q1 0)), .int p2, .int p4, .int p5]) (rest := []) h.1 h.2.2.1 lk_X3_45 (ids_c h2_1 0 (by decide)) (eC0 h2_1 _) rfl rfl (c_X1_beginWith x.1.2.1 y hy 1 q1 h2_1 hq1 p2 p4 p5 M7) rfl rfl (Nat.le_of_ble_eq_true rfl) ⟨rfl, rfl, Nat.le_of_ble_eq_true rfl, Nat.le_of_ble_eq_true rfl⟩ dX3_reasonNow_55 (fun r9 M8 => ?_)
    refine G_aload_n (pc := 58) h.1 dX3_reasonNow_58 rfl 0 rfl ?_
    refine G_get (pc := 59) (v := .ref (y.2.1 (cI 1 0))) h.1 fl_X3_12 lN132 (eM132 _) rfl dX3_reasonNow_59 ?_
    refine G_callVv (pc := 62) (As := []) (rest := []) h.1 h.2.2.1 lk_X3_49 (ids_c h2_1 0 (by decide)) (eC0 h2_1 _) rfl rfl (c_X1_passToEnd x.1.2.1 y hy 1 h2_1 M8) rfl rfl (Nat.le_of_ble_eq_true rfl) ⟨rfl, rfl, Nat.le_of_ble_eq_true rfl, Nat.le_of_ble_eq_true rfl⟩ dX3_reasonNow_62 (fun r11 M10 => ?_)
    refine G_aload_n (pc := 65) h.1 dX3_reasonNow_65 rfl 0 rfl ?_
    refine G_get (pc := 66) (v := .ref (y.2.1 (cI 1 0))) h.1 fl_X3_12 lN132 (eM132 _) rfl dX3_reasonNow_66 ?_
    refine G_iload_n (pc := 69) h.1 dX3_reasonNow_69 rfl 2 rfl ?_
    refine G_callV (pc := 70) (As := [.int p2]) (rest := []) h.1 h.2.2.1 lk_X3_81 (ids_c h2_1 0 (by decide)) (eC0 h2_1 _) rfl rfl (c_X1_rowOf x.1.2.1 y hy 1 h2_1 p2 M10) rfl rfl (Nat.le_of_ble_eq_true rfl) ⟨rfl, rfl, Nat.le_of_ble_eq_true rfl, Nat.le_of_ble_eq_true rfl⟩ dX3_reasonNow_70 (fun r13 M12 => ?_)
    refine G_istore (pc := 73) h.1 h.2.1 [(6, .int r13), (0, .ref (y.2.1 132)), (1, .ref (y.2.1 (sI q1 0))), (2, .int p2), (3, .int p3), (4, .int p4), (5, .int p5)] dX3_reasonNow_73 (by decide) rfl ?_
    refine G_iload (pc := 75) h.1 dX3_reasonNow_75 0 rfl ?_
    refine G_iconst (pc := 77) (v := (-1)) h.1 dX3_reasonNow_77 (by decide) ?_
    refine G_icmp_eq (pc := 78) (tgt := 111) h.1 dX3_reasonNow_78 (by decide) ?_ ?_
    · exact G_sub [1, 3] rfl (gd_X3_reasonNow_B111 hy h q1 hq1 p2 M12)
    · refine G_aload_n (pc := 81) h.1 dX3_reasonNow_81 rfl 1 rfl ?_
      refine G_get (pc := 82) (v := .ref (y.2.1 (cI 1 0))) h.1 fl_X3_12 lN132 (eM132 _) rfl dX3_reasonNow_82 ?_
      refine G_get (pc := 85) (v := .ref (y.2.1 (cI 1 2))) h.1 fl_X3_59 (ids_c h2_1 0 (by decide)) (eC0 h2_1 _) rfl dX3_reasonNow_85 ?_
      refine G_iload (pc := 88) h.1 dX3_reasonNow_88 0 rfl ?_
      refine G_iald (pc := 90) h.1 (ids_c h2_1 2 (by decide)) (eC2 h2_1 _) dX3_reasonNow_90 ?_
      refine G_iconst (pc := 91) (v := (3)) h.1 dX3_reasonNow_91 (by decide) ?_
      refine G_icmp_ne (pc := 92) (tgt := 111) h.1 dX3_reasonNow_92 (by decide) ?_ ?_
      · exact G_sub [1, 3] rfl (gd_X3_reasonNow_B111 hy h q1 hq1 p2 M12)
      · refine G_aload_n (pc := 95) h.1 dX3_reasonNow_95 rfl 1 rfl ?_
        refine G_aload_n (pc := 96) h.1 dX3_reasonNow_96 rfl 1 rfl ?_
        refine G_get (pc := 97) (v := .ref (y.2.1 (cI 1 0))) h.1 fl_X3_12 lN132 (eM132 _) rfl dX3_reasonNow_97 ?_
        refine G_get (pc := 100) (v := .ref (y.2.1 (cI 1 4))) h.1 fl_X3_85 (ids_c h2_1 0 (by decide)) (eC0 h2_1 _) rfl dX3_reasonNow_100 ?_
        refine G_iload (pc := 103) h.1 dX3_reasonNow_103 0 rfl ?_
        refine G_iald (pc := 105) h.1 (ids_c h2_1 4 (by decide)) (eC4 h2_1 _) dX3_reasonNow_105 ?_
        refine G_put (pc := 106) h.1 fp_X3_62 lN132 (fun m => eM132 m) (fun _ => rfl) (fun _ => Nat.le_of_ble_eq_true rfl) rfl rfl dX3_reasonNow_106 (fun M16 => ?_)
        refine G_iconst (pc := 109) (v := (2)) h.1 dX3_reasonNow_109 (by decide) ?_
        exact G_ret (pc := 110) h rfl dX3_reasonNow_110
  · refine G_iconst (pc := 37) (v := (1)) h.1 dX3_reasonNow_37 (by decide) ?_
    exact G_ret (pc := 38) h rfl dX3_reasonNow_38
theorem dX3_reasonAgainst_0 : decode cX3_reasonAgainst 0 = .ok (.aload_n 0, 1) := by decide +kernel
theorem dX3_reasonAgainst_1 : decode cX3_reasonAgainst 1 = .ok (.aload_n 1, 1) := by decide +kernel
theorem dX3_reasonAgainst_2 : decode cX3_reasonAgainst 2 = .ok (.iload_n 2, 1) := by decide +kernel
theorem dX3_reasonAgainst_3 : decode cX3_reasonAgainst 3 = .ok (.invokevirtual 22, 3) := by decide +kernel
theorem dX3_reasonAgainst_6 : decode cX3_reasonAgainst 6 = .ok (.aload_n 0, 1) := by decide +kernel
theorem dX3_reasonAgainst_7 : decode cX3_reasonAgainst 7 = .ok (.aload_n 1, 1) := by decide +kernel
theorem dX3_reasonAgainst_8 : decode cX3_reasonAgainst 8 = .ok (.iload_n 2, 1) := by decide +kernel
theorem dX3_reasonAgainst_9 : decode cX3_reasonAgainst 9 = .ok (.iload_n 3, 1) := by decide +kernel
theorem dX3_reasonAgainst_10 : decode cX3_reasonAgainst 10 = .ok (.iload 4, 2) := by decide +kernel
theorem dX3_reasonAgainst_12 : decode cX3_reasonAgainst 12 = .ok (.iload 5, 2) := by decide +kernel
theorem dX3_reasonAgainst_14 : decode cX3_reasonAgainst 14 = .ok (.invokevirtual 26, 3) := by decide +kernel
theorem dX3_reasonAgainst_17 : decode cX3_reasonAgainst 17 = .ok (.ireturn, 1) := by decide +kernel
abbrev rX3_reasonAgainst : Room := { frames := 4, cells := 0, slots := 0, locals := 97 }
set_option maxRecDepth 20000 in
theorem c_X3_reasonAgainst (l : Launch) (y : Cy) (hy : Inj y) (q1 : Nat) (hq1 : q1 < 7) (p2 : Int32) (p3 : Int32) (p4 : Int32) (p5 : Int32) (M : Mem) : CT l y yX3_reasonAgainst cX3_reasonAgainst 6 (some .int) rX3_reasonAgainst [.ref (y.2.1 132), .ref (y.2.1 (sI q1 0)), .int p2, .int p3, .int p4, .int p5] M (d_X3_reasonAgainst q1 p2 p3 p4 p5 M) := by
  refine CT_of (by decide) hy (Nat.le_of_ble_eq_true rfl) (fun x hxl h => ?_)
  show G x y 0 [(0, .ref (y.2.1 132)), (1, .ref (y.2.1 (sI q1 0))), (2, .int p2), (3, .int p3), (4, .int p4), (5, .int p5)] [] M _
  unfold d_X3_reasonAgainst
  refine G_aload_n (pc := 0) h.1 dX3_reasonAgainst_0 rfl 0 rfl ?_
  refine G_aload_n (pc := 1) h.1 dX3_reasonAgainst_1 rfl 1 rfl ?_
  refine G_iload_n (pc := 2) h.1 dX3_reasonAgainst_2 rfl 2 rfl ?_
  refine G_callVv (pc := 3) (As := [.ref (y.2.1 (sI q1 0)), .int p2]) (rest := []) h.1 h.2.2.1 lk_X3_22 lN132 (eM132 _) rfl rfl (c_X3_forecastWithout x.1.2.1 y hy q1 hq1 p2 M) rfl rfl (Nat.le_of_ble_eq_true rfl) ⟨rfl, rfl, Nat.le_of_ble_eq_true rfl, Nat.le_of_ble_eq_true rfl⟩ dX3_reasonAgainst_3 (fun r2 M1 => ?_)
  refine G_aload_n (pc := 6) h.1 dX3_reasonAgainst_6 rfl 0 rfl ?_
  refine G_aload_n (pc := 7) h.1 dX3_reasonAgainst_7 rfl 1 rfl ?_
  refine G_iload_n (pc := 8) h.1 dX3_reasonAgainst_8 rfl 2 rfl ?_
  refine G_iload_n (pc := 9) h.1 dX3_reasonAgainst_9 rfl 3 rfl ?_
  refine G_iload (pc := 10) h.1 dX3_reasonAgainst_10 4 rfl ?_
  refine G_iload (pc := 12) h.1 dX3_reasonAgainst_12 5 rfl ?_
  refine G_callV (pc := 14) (As := [.ref (y.2.1 (sI q1 0)), .int p2, .int p3, .int p4, .int p5]) (rest := []) h.1 h.2.2.1 lk_X3_26 lN132 (eM132 _) rfl rfl (c_X3_reasonNow x.1.2.1 y hy q1 hq1 p2 p3 p4 p5 M1) rfl rfl (Nat.le_of_ble_eq_true rfl) ⟨rfl, rfl, Nat.le_of_ble_eq_true rfl, Nat.le_of_ble_eq_true rfl⟩ dX3_reasonAgainst_14 (fun r4 M3 => ?_)
  exact G_ret (pc := 17) h rfl dX3_reasonAgainst_17
theorem dX3_firstFit_0 : decode cX3_firstFit 0 = .ok (.aload_n 0, 1) := by decide +kernel
theorem dX3_firstFit_1 : decode cX3_firstFit 1 = .ok (.aload_n 1, 1) := by decide +kernel
theorem dX3_firstFit_2 : decode cX3_firstFit 2 = .ok (.iload_n 2, 1) := by decide +kernel
theorem dX3_firstFit_3 : decode cX3_firstFit 3 = .ok (.invokevirtual 22, 3) := by decide +kernel
theorem dX3_firstFit_6 : decode cX3_firstFit 6 = .ok (.iload 5, 2) := by decide +kernel
theorem dX3_firstFit_8 : decode cX3_firstFit 8 = .ok (.aload_n 1, 1) := by decide +kernel
theorem dX3_firstFit_9 : decode cX3_firstFit 9 = .ok (.getfield 30, 3) := by decide +kernel
theorem dX3_firstFit_12 : decode cX3_firstFit 12 = .ok (.iconst 1, 1) := by decide +kernel
theorem dX3_firstFit_13 : decode cX3_firstFit 13 = .ok (.iadd, 1) := by decide +kernel
theorem dX3_firstFit_14 : decode cX3_firstFit 14 = .ok (.invokestatic 36, 3) := by decide +kernel
theorem dX3_firstFit_17 : decode cX3_firstFit 17 = .ok (.istore 7, 2) := by decide +kernel
theorem dX3_firstFit_19 : decode cX3_firstFit 19 = .ok (.iload 6, 2) := by decide +kernel
theorem dX3_firstFit_21 : decode cX3_firstFit 21 = .ok (.aload_n 1, 1) := by decide +kernel
theorem dX3_firstFit_22 : decode cX3_firstFit 22 = .ok (.getfield 30, 3) := by decide +kernel
theorem dX3_firstFit_25 : decode cX3_firstFit 25 = .ok (.bipush 60, 2) := by decide +kernel
theorem dX3_firstFit_27 : decode cX3_firstFit 27 = .ok (.iadd, 1) := by decide +kernel
theorem dX3_firstFit_28 : decode cX3_firstFit 28 = .ok (.invokestatic 42, 3) := by decide +kernel
theorem dX3_firstFit_31 : decode cX3_firstFit 31 = .ok (.istore 8, 2) := by decide +kernel
theorem dX3_firstFit_33 : decode cX3_firstFit 33 = .ok (.iload 7, 2) := by decide +kernel
theorem dX3_firstFit_35 : decode cX3_firstFit 35 = .ok (.istore 9, 2) := by decide +kernel
theorem dX3_firstFit_37 : decode cX3_firstFit 37 = .ok (.iload 9, 2) := by decide +kernel
theorem dX3_firstFit_39 : decode cX3_firstFit 39 = .ok (.iload 8, 2) := by decide +kernel
theorem dX3_firstFit_41 : decode cX3_firstFit 41 = .ok (.if_icmp .gt 26, 3) := by decide +kernel
theorem dX3_firstFit_44 : decode cX3_firstFit 44 = .ok (.aload_n 0, 1) := by decide +kernel
theorem dX3_firstFit_45 : decode cX3_firstFit 45 = .ok (.aload_n 1, 1) := by decide +kernel
theorem dX3_firstFit_46 : decode cX3_firstFit 46 = .ok (.iload_n 2, 1) := by decide +kernel
theorem dX3_firstFit_47 : decode cX3_firstFit 47 = .ok (.iload_n 3, 1) := by decide +kernel
theorem dX3_firstFit_48 : decode cX3_firstFit 48 = .ok (.iload 4, 2) := by decide +kernel
theorem dX3_firstFit_50 : decode cX3_firstFit 50 = .ok (.iload 9, 2) := by decide +kernel
theorem dX3_firstFit_52 : decode cX3_firstFit 52 = .ok (.invokevirtual 26, 3) := by decide +kernel
theorem dX3_firstFit_55 : decode cX3_firstFit 55 = .ok (.ifCond .ne 6, 3) := by decide +kernel
theorem dX3_firstFit_58 : decode cX3_firstFit 58 = .ok (.iload 9, 2) := by decide +kernel
theorem dX3_firstFit_60 : decode cX3_firstFit 60 = .ok (.ireturn, 1) := by decide +kernel
theorem dX3_firstFit_61 : decode cX3_firstFit 61 = .ok (.iinc 9 1, 3) := by decide +kernel
theorem dX3_firstFit_64 : decode cX3_firstFit 64 = .ok (.goto (-27), 3) := by decide +kernel
theorem dX3_firstFit_67 : decode cX3_firstFit 67 = .ok (.bipush (-5), 2) := by decide +kernel
theorem dX3_firstFit_69 : decode cX3_firstFit 69 = .ok (.ireturn, 1) := by decide +kernel
abbrev rX3_firstFit : Room := { frames := 4, cells := 0, slots := 0, locals := 97 }
set_option maxRecDepth 20000 in
theorem gd_X3_firstFit_L37_body {x : Cx} {y : Cy} (hy : Inj y) (h : OkM x y cX3_firstFit RX3 10 (some .int) rX3_firstFit) (q1 : Nat) (hq1 : q1 < 7) (a2 : Int32) (a3 : Int32) (a4 : Int32) (a8 : Int32) (kx1 : Mem → Ans) (hx1 : ∀ M0 : Mem, G x y 67 [] [] M0 (kx1 M0)) (kb : Int32 → Mem → Ans) (hb : ∀ (b9 : Int32), ∀ M0 : Mem, G x y 37 [(0, .ref (y.2.1 132)), (1, .ref (y.2.1 (sI q1 0))), (2, .int a2), (3, .int a3), (4, .int a4), (8, .int a8), (9, .int b9)] [] M0 (kb b9 M0)) (a9 : Int32) (M : Mem) : G x y 37 [(0, .ref (y.2.1 132)), (1, .ref (y.2.1 (sI q1 0))), (2, .int a2), (3, .int a3), (4, .int a4), (8, .int a8), (9, .int a9)] [] M (d_X3_firstFit_L37_body q1 a2 a3 a4 a8 kx1 kb a9 M) := by
  unfold d_X3_firstFit_L37_body
  refine G_iload (pc := 37) h.1 dX3_firstFit_37 6 rfl ?_
  refine G_iload (pc := 39) h.1 dX3_firstFit_39 5 rfl ?_
  refine G_icmp_gt (pc := 41) (tgt := 67) h.1 dX3_firstFit_41 (by decide) ?_ ?_
  · exact G_sub [] rfl (hx1 M)
  · refine G_aload_n (pc := 44) h.1 dX3_firstFit_44 rfl 0 rfl ?_
    refine G_aload_n (pc := 45) h.1 dX3_firstFit_45 rfl 1 rfl ?_
    refine G_iload_n (pc := 46) h.1 dX3_firstFit_46 rfl 2 rfl ?_
    refine G_iload_n (pc := 47) h.1 dX3_firstFit_47 rfl 3 rfl ?_
    refine G_iload (pc := 48) h.1 dX3_firstFit_48 4 rfl ?_
    refine G_iload (pc := 50) h.1 dX3_firstFit_50 6 rfl ?_
    refine G_callV (pc := 52) (As := [.ref (y.2.1 (sI q1 0)), .int a2, .int a3, .int a4, .int a9]) (rest := []) h.1 h.2.2.1 lk_X3_26 lN132 (eM132 _) rfl rfl (c_X3_reasonNow x.1.2.1 y hy q1 hq1 a2 a3 a4 a9 M) rfl rfl (Nat.le_of_ble_eq_true rfl) ⟨rfl, rfl, Nat.le_of_ble_eq_true rfl, Nat.le_of_ble_eq_true rfl⟩ dX3_firstFit_52 (fun r6 M5 => ?_)
    refine G_if_ne (pc := 55) (tgt := 61) h.1 dX3_firstFit_55 (by decide) ?_ ?_
    · refine G_iinc (pc := 61) (v := a9 + (1)) h.1 h.2.1 (fun v7 => [(9, .int v7), (0, .ref (y.2.1 132)), (1, .ref (y.2.1 (sI q1 0))), (2, .int a2), (3, .int a3), (4, .int a4), (8, .int a8)]) dX3_firstFit_61 (by decide) 6 rfl rfl (fun _ => rfl) (fun v7 => ?_)
      refine G_goto (pc := 64) (tgt := 37) h.1 dX3_firstFit_64 (by decide) ?_
      exact G_sub [1, 2, 3, 4, 5, 6, 0] rfl (hb v7 M5)
    · refine G_iload (pc := 58) h.1 dX3_firstFit_58 6 rfl ?_
      exact G_ret (pc := 60) h rfl dX3_firstFit_60
set_option maxRecDepth 20000 in
theorem gd_X3_firstFit_L37 {x : Cx} {y : Cy} (hy : Inj y) (h : OkM x y cX3_firstFit RX3 10 (some .int) rX3_firstFit) (q1 : Nat) (hq1 : q1 < 7) (a2 : Int32) (a3 : Int32) (a4 : Int32) (a8 : Int32) (kx1 : Mem → Ans) (hx1 : ∀ M0 : Mem, G x y 67 [] [] M0 (kx1 M0)) : ∀ (n : Nat) (a9 : Int32) (M : Mem), G x y 37 [(0, .ref (y.2.1 132)), (1, .ref (y.2.1 (sI q1 0))), (2, .int a2), (3, .int a3), (4, .int a4), (8, .int a8), (9, .int a9)] [] M (d_X3_firstFit_L37 q1 a2 a3 a4 a8 kx1 n a9 M) := by
  intro n
  induction n with
  | zero => intro a9 M; exact G_none
  | succ n ih => intro a9 M; exact gd_X3_firstFit_L37_body hy h q1 hq1 a2 a3 a4 a8 kx1 hx1 _ ih a9 M
set_option maxRecDepth 20000 in
theorem c_X3_firstFit (l : Launch) (y : Cy) (hy : Inj y) (q1 : Nat) (hq1 : q1 < 7) (p2 : Int32) (p3 : Int32) (p4 : Int32) (p5 : Int32) (p6 : Int32) (M : Mem) : CT l y yX3_firstFit cX3_firstFit 10 (some .int) rX3_firstFit [.ref (y.2.1 132), .ref (y.2.1 (sI q1 0)), .int p2, .int p3, .int p4, .int p5, .int p6] M (d_X3_firstFit q1 p2 p3 p4 p5 p6 M) := by
  refine CT_of (by decide) hy (Nat.le_of_ble_eq_true rfl) (fun x hxl h => ?_)
  show G x y 0 [(0, .ref (y.2.1 132)), (1, .ref (y.2.1 (sI q1 0))), (2, .int p2), (3, .int p3), (4, .int p4), (5, .int p5), (6, .int p6)] [] M _
  unfold d_X3_firstFit
  refine G_aload_n (pc := 0) h.1 dX3_firstFit_0 rfl 0 rfl ?_
  refine G_aload_n (pc := 1) h.1 dX3_firstFit_1 rfl 1 rfl ?_
  refine G_iload_n (pc := 2) h.1 dX3_firstFit_2 rfl 2 rfl ?_
  refine G_callVv (pc := 3) (As := [.ref (y.2.1 (sI q1 0)), .int p2]) (rest := []) h.1 h.2.2.1 lk_X3_22 lN132 (eM132 _) rfl rfl (c_X3_forecastWithout x.1.2.1 y hy q1 hq1 p2 M) rfl rfl (Nat.le_of_ble_eq_true rfl) ⟨rfl, rfl, Nat.le_of_ble_eq_true rfl, Nat.le_of_ble_eq_true rfl⟩ dX3_firstFit_3 (fun r2 M1 => ?_)
  refine G_iload (pc := 6) h.1 dX3_firstFit_6 5 rfl ?_
  refine G_aload_n (pc := 8) h.1 dX3_firstFit_8 rfl 1 rfl ?_
  refine G_get (pc := 9) (v := .int (M1 (sI q1 0) 0)) h.1 fl_X3_30 (ids_s hq1 0 (by decide)) (eS0 hq1 _) rfl dX3_firstFit_9 ?_
  refine G_iconst (pc := 12) (v := (1)) h.1 dX3_firstFit_12 (by decide) ?_
  refine G_iadd (pc := 13) h.1 dX3_firstFit_13 ?_
  refine G_mmax (pc := 14) h.1 h.2.2.1 mm_X3_36 dX3_firstFit_14 (Nat.le_of_ble_eq_true rfl) (Nat.le_of_ble_eq_true rfl) ?_
  refine G_top (fun v3 => ?_)
  refine G_istore (pc := 17) h.1 h.2.1 [(7, .int v3), (0, .ref (y.2.1 132)), (1, .ref (y.2.1 (sI q1 0))), (2, .int p2), (3, .int p3), (4, .int p4), (5, .int p5), (6, .int p6)] dX3_firstFit_17 (by decide) rfl ?_
  refine G_iload (pc := 19) h.1 dX3_firstFit_19 7 rfl ?_
  refine G_aload_n (pc := 21) h.1 dX3_firstFit_21 rfl 2 rfl ?_
  refine G_get (pc := 22) (v := .int (M1 (sI q1 0) 0)) h.1 fl_X3_30 (ids_s hq1 0 (by decide)) (eS0 hq1 _) rfl dX3_firstFit_22 ?_
  refine G_bipush (pc := 25) (v := (60)) h.1 dX3_firstFit_25 (by decide) ?_
  refine G_iadd (pc := 27) h.1 dX3_firstFit_27 ?_
  refine G_mmin (pc := 28) h.1 h.2.2.1 mm_X3_42 dX3_firstFit_28 (Nat.le_of_ble_eq_true rfl) (Nat.le_of_ble_eq_true rfl) ?_
  refine G_top (fun v4 => ?_)
  refine G_istore (pc := 31) h.1 h.2.1 [(8, .int v4), (7, .int v3), (0, .ref (y.2.1 132)), (1, .ref (y.2.1 (sI q1 0))), (2, .int p2), (3, .int p3), (4, .int p4), (5, .int p5), (6, .int p6)] dX3_firstFit_31 (by decide) rfl ?_
  refine G_iload (pc := 33) h.1 dX3_firstFit_33 1 rfl ?_
  refine G_istore (pc := 35) h.1 h.2.1 [(9, .int v3), (8, .int v4), (7, .int v3), (0, .ref (y.2.1 132)), (1, .ref (y.2.1 (sI q1 0))), (2, .int p2), (3, .int p3), (4, .int p4), (5, .int p5), (6, .int p6)] dX3_firstFit_35 (by decide) rfl ?_
  refine G_sub [3, 4, 5, 6, 7, 1, 0] rfl (gd_X3_firstFit_L37 hy h q1 hq1 p2 p3 p4 v4 _ (fun M8 => ?_) fuelN v3 M1)
  refine G_bipush (pc := 67) (v := (-5)) h.1 dX3_firstFit_67 (by decide) ?_
  exact G_ret (pc := 69) h rfl dX3_firstFit_69
theorem dX4_append_0 : decode cX4_append 0 = .ok (.aload_n 0, 1) := by decide +kernel
theorem dX4_append_1 : decode cX4_append 1 = .ok (.getfield 24, 3) := by decide +kernel
theorem dX4_append_4 : decode cX4_append 4 = .ok (.bipush 8, 2) := by decide +kernel
theorem dX4_append_6 : decode cX4_append 6 = .ok (.if_icmp .lt 6, 3) := by decide +kernel
theorem dX4_append_9 : decode cX4_append 9 = .ok (.bipush (-3), 2) := by decide +kernel
theorem dX4_append_11 : decode cX4_append 11 = .ok (.ireturn, 1) := by decide +kernel
theorem dX4_append_12 : decode cX4_append 12 = .ok (.aload_n 0, 1) := by decide +kernel
theorem dX4_append_13 : decode cX4_append 13 = .ok (.getfield 9, 3) := by decide +kernel
theorem dX4_append_16 : decode cX4_append 16 = .ok (.aload_n 0, 1) := by decide +kernel
theorem dX4_append_17 : decode cX4_append 17 = .ok (.getfield 24, 3) := by decide +kernel
theorem dX4_append_20 : decode cX4_append 20 = .ok (.iload_n 1, 1) := by decide +kernel
theorem dX4_append_21 : decode cX4_append 21 = .ok (.iastore, 1) := by decide +kernel
theorem dX4_append_22 : decode cX4_append 22 = .ok (.aload_n 0, 1) := by decide +kernel
theorem dX4_append_23 : decode cX4_append 23 = .ok (.getfield 15, 3) := by decide +kernel
theorem dX4_append_26 : decode cX4_append 26 = .ok (.aload_n 0, 1) := by decide +kernel
theorem dX4_append_27 : decode cX4_append 27 = .ok (.getfield 24, 3) := by decide +kernel
theorem dX4_append_30 : decode cX4_append 30 = .ok (.iload_n 2, 1) := by decide +kernel
theorem dX4_append_31 : decode cX4_append 31 = .ok (.iastore, 1) := by decide +kernel
theorem dX4_append_32 : decode cX4_append 32 = .ok (.aload_n 0, 1) := by decide +kernel
theorem dX4_append_33 : decode cX4_append 33 = .ok (.getfield 18, 3) := by decide +kernel
theorem dX4_append_36 : decode cX4_append 36 = .ok (.aload_n 0, 1) := by decide +kernel
theorem dX4_append_37 : decode cX4_append 37 = .ok (.getfield 24, 3) := by decide +kernel
theorem dX4_append_40 : decode cX4_append 40 = .ok (.iload_n 3, 1) := by decide +kernel
theorem dX4_append_41 : decode cX4_append 41 = .ok (.iastore, 1) := by decide +kernel
theorem dX4_append_42 : decode cX4_append 42 = .ok (.aload_n 0, 1) := by decide +kernel
theorem dX4_append_43 : decode cX4_append 43 = .ok (.getfield 21, 3) := by decide +kernel
theorem dX4_append_46 : decode cX4_append 46 = .ok (.aload_n 0, 1) := by decide +kernel
theorem dX4_append_47 : decode cX4_append 47 = .ok (.getfield 24, 3) := by decide +kernel
theorem dX4_append_50 : decode cX4_append 50 = .ok (.iload 4, 2) := by decide +kernel
theorem dX4_append_52 : decode cX4_append 52 = .ok (.iastore, 1) := by decide +kernel
theorem dX4_append_53 : decode cX4_append 53 = .ok (.aload_n 0, 1) := by decide +kernel
theorem dX4_append_54 : decode cX4_append 54 = .ok (.dup, 1) := by decide +kernel
theorem dX4_append_55 : decode cX4_append 55 = .ok (.getfield 24, 3) := by decide +kernel
theorem dX4_append_58 : decode cX4_append 58 = .ok (.iconst 1, 1) := by decide +kernel
theorem dX4_append_59 : decode cX4_append 59 = .ok (.iadd, 1) := by decide +kernel
theorem dX4_append_60 : decode cX4_append 60 = .ok (.putfield 24, 3) := by decide +kernel
theorem dX4_append_63 : decode cX4_append 63 = .ok (.aload_n 0, 1) := by decide +kernel
theorem dX4_append_64 : decode cX4_append 64 = .ok (.getfield 24, 3) := by decide +kernel
theorem dX4_append_67 : decode cX4_append 67 = .ok (.iconst 1, 1) := by decide +kernel
theorem dX4_append_68 : decode cX4_append 68 = .ok (.isub, 1) := by decide +kernel
theorem dX4_append_69 : decode cX4_append 69 = .ok (.ireturn, 1) := by decide +kernel
abbrev rX4_append : Room := { frames := 0, cells := 0, slots := 0, locals := 0 }
set_option maxRecDepth 20000 in
theorem c_X4_append (l : Launch) (y : Cy) (hy : Inj y) (q0 : Nat) (hq0 : q0 < 7) (p1 : Int32) (p2 : Int32) (p3 : Int32) (p4 : Int32) (M : Mem) : CT l y yX4_append cX4_append 5 (some .int) rX4_append [.ref (y.2.1 (sI q0 1)), .int p1, .int p2, .int p3, .int p4] M (d_X4_append q0 p1 p2 p3 p4 M) := by
  refine CT_of (by decide) hy (Nat.le_of_ble_eq_true rfl) (fun x hxl h => ?_)
  show G x y 0 [(0, .ref (y.2.1 (sI q0 1))), (1, .int p1), (2, .int p2), (3, .int p3), (4, .int p4)] [] M _
  unfold d_X4_append
  refine G_aload_n (pc := 0) h.1 dX4_append_0 rfl 0 rfl ?_
  refine G_get (pc := 1) (v := .int (M (sI q0 1) 0)) h.1 fl_X4_24 (ids_s hq0 1 (by decide)) (eS1 hq0 _) rfl dX4_append_1 ?_
  refine G_bipush (pc := 4) (v := (8)) h.1 dX4_append_4 (by decide) ?_
  refine G_icmp_lt (pc := 6) (tgt := 12) h.1 dX4_append_6 (by decide) ?_ ?_
  · refine G_aload_n (pc := 12) h.1 dX4_append_12 rfl 0 rfl ?_
    refine G_get (pc := 13) (v := .ref (y.2.1 (sI q0 2))) h.1 fl_X4_9 (ids_s hq0 1 (by decide)) (eS1 hq0 _) rfl dX4_append_13 ?_
    refine G_aload_n (pc := 16) h.1 dX4_append_16 rfl 0 rfl ?_
    refine G_get (pc := 17) (v := .int (M (sI q0 1) 0)) h.1 fl_X4_24 (ids_s hq0 1 (by decide)) (eS1 hq0 _) rfl dX4_append_17 ?_
    refine G_iload_n (pc := 20) h.1 dX4_append_20 rfl 1 rfl ?_
    refine G_iast (pc := 21) h.1 (ids_s hq0 2 (by decide)) (fun m => eS2 hq0 m) dX4_append_21 (fun M1 => ?_)
    refine G_aload_n (pc := 22) h.1 dX4_append_22 rfl 0 rfl ?_
    refine G_get (pc := 23) (v := .ref (y.2.1 (sI q0 3))) h.1 fl_X4_15 (ids_s hq0 1 (by decide)) (eS1 hq0 _) rfl dX4_append_23 ?_
    refine G_aload_n (pc := 26) h.1 dX4_append_26 rfl 0 rfl ?_
    refine G_get (pc := 27) (v := .int (M1 (sI q0 1) 0)) h.1 fl_X4_24 (ids_s hq0 1 (by decide)) (eS1 hq0 _) rfl dX4_append_27 ?_
    refine G_iload_n (pc := 30) h.1 dX4_append_30 rfl 2 rfl ?_
    refine G_iast (pc := 31) h.1 (ids_s hq0 3 (by decide)) (fun m => eS3 hq0 m) dX4_append_31 (fun M2 => ?_)
    refine G_aload_n (pc := 32) h.1 dX4_append_32 rfl 0 rfl ?_
    refine G_get (pc := 33) (v := .ref (y.2.1 (sI q0 4))) h.1 fl_X4_18 (ids_s hq0 1 (by decide)) (eS1 hq0 _) rfl dX4_append_33 ?_
    refine G_aload_n (pc := 36) h.1 dX4_append_36 rfl 0 rfl ?_
    refine G_get (pc := 37) (v := .int (M2 (sI q0 1) 0)) h.1 fl_X4_24 (ids_s hq0 1 (by decide)) (eS1 hq0 _) rfl dX4_append_37 ?_
    refine G_iload_n (pc := 40) h.1 dX4_append_40 rfl 3 rfl ?_
    refine G_iast (pc := 41) h.1 (ids_s hq0 4 (by decide)) (fun m => eS4 hq0 m) dX4_append_41 (fun M3 => ?_)
    refine G_aload_n (pc := 42) h.1 dX4_append_42 rfl 0 rfl ?_
    refine G_get (pc := 43) (v := .ref (y.2.1 (sI q0 5))) h.1 fl_X4_21 (ids_s hq0 1 (by decide)) (eS1 hq0 _) rfl dX4_append_43 ?_
    refine G_aload_n (pc := 46) h.1 dX4_append_46 rfl 0 rfl ?_
    refine G_get (pc := 47) (v := .int (M3 (sI q0 1) 0)) h.1 fl_X4_24 (ids_s hq0 1 (by decide)) (eS1 hq0 _) rfl dX4_append_47 ?_
    refine G_iload (pc := 50) h.1 dX4_append_50 4 rfl ?_
    refine G_iast (pc := 52) h.1 (ids_s hq0 5 (by decide)) (fun m => eS5 hq0 m) dX4_append_52 (fun M4 => ?_)
    refine G_aload_n (pc := 53) h.1 dX4_append_53 rfl 0 rfl ?_
    refine G_dup (pc := 54) h.1 dX4_append_54 rfl ?_
    refine G_get (pc := 55) (v := .int (M4 (sI q0 1) 0)) h.1 fl_X4_24 (ids_s hq0 1 (by decide)) (eS1 hq0 _) rfl dX4_append_55 ?_
    refine G_iconst (pc := 58) (v := (1)) h.1 dX4_append_58 (by decide) ?_
    refine G_iadd (pc := 59) h.1 dX4_append_59 ?_
    refine G_put (pc := 60) h.1 fp_X4_24 (ids_s hq0 1 (by decide)) (fun m => eS1 hq0 m) (fun _ => rfl) (fun _ => Nat.le_of_ble_eq_true rfl) rfl rfl dX4_append_60 (fun M5 => ?_)
    refine G_aload_n (pc := 63) h.1 dX4_append_63 rfl 0 rfl ?_
    refine G_get (pc := 64) (v := .int (M5 (sI q0 1) 0)) h.1 fl_X4_24 (ids_s hq0 1 (by decide)) (eS1 hq0 _) rfl dX4_append_64 ?_
    refine G_iconst (pc := 67) (v := (1)) h.1 dX4_append_67 (by decide) ?_
    refine G_isub (pc := 68) h.1 dX4_append_68 ?_
    exact G_ret (pc := 69) h rfl dX4_append_69
  · refine G_bipush (pc := 9) (v := (-3)) h.1 dX4_append_9 (by decide) ?_
    exact G_ret (pc := 11) h rfl dX4_append_11
theorem dX5_canStart_0 : decode cX5_canStart 0 = .ok (.iload_n 1, 1) := by decide +kernel
theorem dX5_canStart_1 : decode cX5_canStart 1 = .ok (.aload_n 0, 1) := by decide +kernel
theorem dX5_canStart_2 : decode cX5_canStart 2 = .ok (.getfield 42, 3) := by decide +kernel
theorem dX5_canStart_5 : decode cX5_canStart 5 = .ok (.if_icmp .le 18, 3) := by decide +kernel
theorem dX5_canStart_8 : decode cX5_canStart 8 = .ok (.iload_n 1, 1) := by decide +kernel
theorem dX5_canStart_9 : decode cX5_canStart 9 = .ok (.aload_n 0, 1) := by decide +kernel
theorem dX5_canStart_10 : decode cX5_canStart 10 = .ok (.getfield 42, 3) := by decide +kernel
theorem dX5_canStart_13 : decode cX5_canStart 13 = .ok (.bipush 60, 2) := by decide +kernel
theorem dX5_canStart_15 : decode cX5_canStart 15 = .ok (.iadd, 1) := by decide +kernel
theorem dX5_canStart_16 : decode cX5_canStart 16 = .ok (.if_icmp .gt 7, 3) := by decide +kernel
theorem dX5_canStart_19 : decode cX5_canStart 19 = .ok (.iconst 1, 1) := by decide +kernel
theorem dX5_canStart_20 : decode cX5_canStart 20 = .ok (.goto 4, 3) := by decide +kernel
theorem dX5_canStart_23 : decode cX5_canStart 23 = .ok (.iconst 0, 1) := by decide +kernel
theorem dX5_canStart_24 : decode cX5_canStart 24 = .ok (.ireturn, 1) := by decide +kernel
abbrev rX5_canStart : Room := { frames := 0, cells := 0, slots := 0, locals := 0 }
set_option maxRecDepth 20000 in
theorem c_X5_canStart (l : Launch) (y : Cy) (hy : Inj y) (q0 : Nat) (hq0 : q0 < 7) (p1 : Int32) (M : Mem) : CT l y yX5_canStart cX5_canStart 2 (some .boolean) rX5_canStart [.ref (y.2.1 (sI q0 0)), .int p1] M (d_X5_canStart q0 p1 M) := by
  refine CT_of (by decide) hy (Nat.le_of_ble_eq_true rfl) (fun x hxl h => ?_)
  show G x y 0 [(0, .ref (y.2.1 (sI q0 0))), (1, .int p1)] [] M _
  unfold d_X5_canStart
  refine G_iload_n (pc := 0) h.1 dX5_canStart_0 rfl 1 rfl ?_
  refine G_aload_n (pc := 1) h.1 dX5_canStart_1 rfl 0 rfl ?_
  refine G_get (pc := 2) (v := .int (M (sI q0 0) 0)) h.1 fl_X5_42 (ids_s hq0 0 (by decide)) (eS0 hq0 _) rfl dX5_canStart_2 ?_
  refine G_icmp_le (pc := 5) (tgt := 23) h.1 dX5_canStart_5 (by decide) ?_ ?_
  · refine G_iconst (pc := 23) (v := (0)) h.1 dX5_canStart_23 (by decide) ?_
    exact G_ret (pc := 24) h rfl dX5_canStart_24
  · refine G_iload_n (pc := 8) h.1 dX5_canStart_8 rfl 1 rfl ?_
    refine G_aload_n (pc := 9) h.1 dX5_canStart_9 rfl 0 rfl ?_
    refine G_get (pc := 10) (v := .int (M (sI q0 0) 0)) h.1 fl_X5_42 (ids_s hq0 0 (by decide)) (eS0 hq0 _) rfl dX5_canStart_10 ?_
    refine G_bipush (pc := 13) (v := (60)) h.1 dX5_canStart_13 (by decide) ?_
    refine G_iadd (pc := 15) h.1 dX5_canStart_15 ?_
    refine G_icmp_gt (pc := 16) (tgt := 23) h.1 dX5_canStart_16 (by decide) ?_ ?_
    · refine G_iconst (pc := 23) (v := (0)) h.1 dX5_canStart_23 (by decide) ?_
      exact G_ret (pc := 24) h rfl dX5_canStart_24
    · refine G_iconst (pc := 19) (v := (1)) h.1 dX5_canStart_19 (by decide) ?_
      refine G_goto (pc := 20) (tgt := 24) h.1 dX5_canStart_20 (by decide) ?_
      exact G_ret (pc := 24) h rfl dX5_canStart_24
theorem dX5_isBusyIn_0 : decode cX5_isBusyIn 0 = .ok (.aload_n 0, 1) := by decide +kernel
theorem dX5_isBusyIn_1 : decode cX5_isBusyIn 1 = .ok (.iload_n 1, 1) := by decide +kernel
theorem dX5_isBusyIn_2 : decode cX5_isBusyIn 2 = .ok (.iload_n 2, 1) := by decide +kernel
theorem dX5_isBusyIn_3 : decode cX5_isBusyIn 3 = .ok (.iload_n 2, 1) := by decide +kernel
theorem dX5_isBusyIn_4 : decode cX5_isBusyIn 4 = .ok (.iconst (-1), 1) := by decide +kernel
theorem dX5_isBusyIn_5 : decode cX5_isBusyIn 5 = .ok (.invokevirtual 63, 3) := by decide +kernel
theorem dX5_isBusyIn_8 : decode cX5_isBusyIn 8 = .ok (.iconst (-1), 1) := by decide +kernel
theorem dX5_isBusyIn_9 : decode cX5_isBusyIn 9 = .ok (.if_icmp .eq 7, 3) := by decide +kernel
theorem dX5_isBusyIn_12 : decode cX5_isBusyIn 12 = .ok (.iconst 1, 1) := by decide +kernel
theorem dX5_isBusyIn_13 : decode cX5_isBusyIn 13 = .ok (.goto 4, 3) := by decide +kernel
theorem dX5_isBusyIn_16 : decode cX5_isBusyIn 16 = .ok (.iconst 0, 1) := by decide +kernel
theorem dX5_isBusyIn_17 : decode cX5_isBusyIn 17 = .ok (.ireturn, 1) := by decide +kernel
abbrev rX5_isBusyIn : Room := { frames := 3, cells := 0, slots := 0, locals := 68 }
set_option maxRecDepth 20000 in
theorem c_X5_isBusyIn (l : Launch) (y : Cy) (hy : Inj y) (q0 : Nat) (hq0 : q0 < 7) (p1 : Int32) (p2 : Int32) (M : Mem) : CT l y yX5_isBusyIn cX5_isBusyIn 3 (some .boolean) rX5_isBusyIn [.ref (y.2.1 (sI q0 0)), .int p1, .int p2] M (d_X5_isBusyIn q0 p1 p2 M) := by
  refine CT_of (by decide) hy (Nat.le_of_ble_eq_true rfl) (fun x hxl h => ?_)
  show G x y 0 [(0, .ref (y.2.1 (sI q0 0))), (1, .int p1), (2, .int p2)] [] M _
  unfold d_X5_isBusyIn
  refine G_aload_n (pc := 0) h.1 dX5_isBusyIn_0 rfl 0 rfl ?_
  refine G_iload_n (pc := 1) h.1 dX5_isBusyIn_1 rfl 1 rfl ?_
  refine G_iload_n (pc := 2) h.1 dX5_isBusyIn_2 rfl 2 rfl ?_
  refine G_iload_n (pc := 3) h.1 dX5_isBusyIn_3 rfl 2 rfl ?_
  refine G_iconst (pc := 4) (v := (-1)) h.1 dX5_isBusyIn_4 (by decide) ?_
  refine G_callV (pc := 5) (As := [.int p1, .int p2, .int p2, .int (-1 : Int32)]) (rest := []) h.1 h.2.2.1 lk_X5_63 (ids_s hq0 0 (by decide)) (eS0 hq0 _) rfl rfl (c_X5_firstMeeting x.1.2.1 y hy q0 hq0 p1 p2 p2 (-1 : Int32) M) rfl rfl (Nat.le_of_ble_eq_true rfl) ⟨rfl, rfl, Nat.le_of_ble_eq_true rfl, Nat.le_of_ble_eq_true rfl⟩ dX5_isBusyIn_5 (fun r2 M1 => ?_)
  refine G_iconst (pc := 8) (v := (-1)) h.1 dX5_isBusyIn_8 (by decide) ?_
  refine G_icmp_eq (pc := 9) (tgt := 16) h.1 dX5_isBusyIn_9 (by decide) ?_ ?_
  · refine G_iconst (pc := 16) (v := (0)) h.1 dX5_isBusyIn_16 (by decide) ?_
    exact G_ret (pc := 17) h rfl dX5_isBusyIn_17
  · refine G_iconst (pc := 12) (v := (1)) h.1 dX5_isBusyIn_12 (by decide) ?_
    refine G_goto (pc := 13) (tgt := 17) h.1 dX5_isBusyIn_13 (by decide) ?_
    exact G_ret (pc := 17) h rfl dX5_isBusyIn_17
theorem dX5_firstFreeTick_0 : decode cX5_firstFreeTick 0 = .ok (.iconst 0, 1) := by decide +kernel
theorem dX5_firstFreeTick_1 : decode cX5_firstFreeTick 1 = .ok (.istore_n 2, 1) := by decide +kernel
theorem dX5_firstFreeTick_2 : decode cX5_firstFreeTick 2 = .ok (.iload_n 2, 1) := by decide +kernel
theorem dX5_firstFreeTick_3 : decode cX5_firstFreeTick 3 = .ok (.bipush 89, 2) := by decide +kernel
theorem dX5_firstFreeTick_5 : decode cX5_firstFreeTick 5 = .ok (.if_icmp .ge 30, 3) := by decide +kernel
theorem dX5_firstFreeTick_8 : decode cX5_firstFreeTick 8 = .ok (.aload_n 0, 1) := by decide +kernel
theorem dX5_firstFreeTick_9 : decode cX5_firstFreeTick 9 = .ok (.iload_n 1, 1) := by decide +kernel
theorem dX5_firstFreeTick_10 : decode cX5_firstFreeTick 10 = .ok (.aload_n 0, 1) := by decide +kernel
theorem dX5_firstFreeTick_11 : decode cX5_firstFreeTick 11 = .ok (.getfield 42, 3) := by decide +kernel
theorem dX5_firstFreeTick_14 : decode cX5_firstFreeTick 14 = .ok (.iload_n 2, 1) := by decide +kernel
theorem dX5_firstFreeTick_15 : decode cX5_firstFreeTick 15 = .ok (.iadd, 1) := by decide +kernel
theorem dX5_firstFreeTick_16 : decode cX5_firstFreeTick 16 = .ok (.invokevirtual 67, 3) := by decide +kernel
theorem dX5_firstFreeTick_19 : decode cX5_firstFreeTick 19 = .ok (.ifCond .ne 10, 3) := by decide +kernel
theorem dX5_firstFreeTick_22 : decode cX5_firstFreeTick 22 = .ok (.aload_n 0, 1) := by decide +kernel
theorem dX5_firstFreeTick_23 : decode cX5_firstFreeTick 23 = .ok (.getfield 42, 3) := by decide +kernel
theorem dX5_firstFreeTick_26 : decode cX5_firstFreeTick 26 = .ok (.iload_n 2, 1) := by decide +kernel
theorem dX5_firstFreeTick_27 : decode cX5_firstFreeTick 27 = .ok (.iadd, 1) := by decide +kernel
theorem dX5_firstFreeTick_28 : decode cX5_firstFreeTick 28 = .ok (.ireturn, 1) := by decide +kernel
theorem dX5_firstFreeTick_29 : decode cX5_firstFreeTick 29 = .ok (.iinc 2 1, 3) := by decide +kernel
theorem dX5_firstFreeTick_32 : decode cX5_firstFreeTick 32 = .ok (.goto (-30), 3) := by decide +kernel
theorem dX5_firstFreeTick_35 : decode cX5_firstFreeTick 35 = .ok (.aload_n 0, 1) := by decide +kernel
theorem dX5_firstFreeTick_36 : decode cX5_firstFreeTick 36 = .ok (.getfield 42, 3) := by decide +kernel
theorem dX5_firstFreeTick_39 : decode cX5_firstFreeTick 39 = .ok (.bipush 89, 2) := by decide +kernel
theorem dX5_firstFreeTick_41 : decode cX5_firstFreeTick 41 = .ok (.iadd, 1) := by decide +kernel
theorem dX5_firstFreeTick_42 : decode cX5_firstFreeTick 42 = .ok (.ireturn, 1) := by decide +kernel
abbrev rX5_firstFreeTick : Room := { frames := 4, cells := 0, slots := 0, locals := 90 }
set_option maxRecDepth 20000 in
theorem gd_X5_firstFreeTick_L2_body {x : Cx} {y : Cy} (hy : Inj y) (h : OkM x y cX5_firstFreeTick RX5 3 (some .int) rX5_firstFreeTick) (q0 : Nat) (hq0 : q0 < 7) (a1 : Int32) (kx1 : Mem → Ans) (hx1 : ∀ M0 : Mem, G x y 35 [(0, .ref (y.2.1 (sI q0 0)))] [] M0 (kx1 M0)) (kb : Int32 → Mem → Ans) (hb : ∀ (b2 : Int32), ∀ M0 : Mem, G x y 2 [(0, .ref (y.2.1 (sI q0 0))), (1, .int a1), (2, .int b2)] [] M0 (kb b2 M0)) (a2 : Int32) (M : Mem) : G x y 2 [(0, .ref (y.2.1 (sI q0 0))), (1, .int a1), (2, .int a2)] [] M (d_X5_firstFreeTick_L2_body q0 a1 kx1 kb a2 M) := by
  unfold d_X5_firstFreeTick_L2_body
  refine G_iload_n (pc := 2) h.1 dX5_firstFreeTick_2 rfl 2 rfl ?_
  refine G_bipush (pc := 3) (v := (89)) h.1 dX5_firstFreeTick_3 (by decide) ?_
  refine G_icmp_ge (pc := 5) (tgt := 35) h.1 dX5_firstFreeTick_5 (by decide) ?_ ?_
  · exact G_sub [0] rfl (hx1 M)
  · refine G_aload_n (pc := 8) h.1 dX5_firstFreeTick_8 rfl 0 rfl ?_
    refine G_iload_n (pc := 9) h.1 dX5_firstFreeTick_9 rfl 1 rfl ?_
    refine G_aload_n (pc := 10) h.1 dX5_firstFreeTick_10 rfl 0 rfl ?_
    refine G_get (pc := 11) (v := .int (M (sI q0 0) 0)) h.1 fl_X5_42 (ids_s hq0 0 (by decide)) (eS0 hq0 _) rfl dX5_firstFreeTick_11 ?_
    refine G_iload_n (pc := 14) h.1 dX5_firstFreeTick_14 rfl 2 rfl ?_
    refine G_iadd (pc := 15) h.1 dX5_firstFreeTick_15 ?_
    refine G_callV (pc := 16) (As := [.int a1, .int ((M (sI q0 0) 0) + a2)]) (rest := []) h.1 h.2.2.1 lk_X5_67 (ids_s hq0 0 (by decide)) (eS0 hq0 _) rfl rfl (c_X5_isBusyIn x.1.2.1 y hy q0 hq0 a1 ((M (sI q0 0) 0) + a2) M) rfl rfl (Nat.le_of_ble_eq_true rfl) ⟨rfl, rfl, Nat.le_of_ble_eq_true rfl, Nat.le_of_ble_eq_true rfl⟩ dX5_firstFreeTick_16 (fun r2 M1 => ?_)
    refine G_if_ne (pc := 19) (tgt := 29) h.1 dX5_firstFreeTick_19 (by decide) ?_ ?_
    · refine G_iinc (pc := 29) (v := a2 + (1)) h.1 h.2.1 (fun v3 => [(2, .int v3), (0, .ref (y.2.1 (sI q0 0))), (1, .int a1)]) dX5_firstFreeTick_29 (by decide) 2 rfl rfl (fun _ => rfl) (fun v3 => ?_)
      refine G_goto (pc := 32) (tgt := 2) h.1 dX5_firstFreeTick_32 (by decide) ?_
      exact G_sub [1, 2, 0] rfl (hb v3 M1)
    · refine G_aload_n (pc := 22) h.1 dX5_firstFreeTick_22 rfl 0 rfl ?_
      refine G_get (pc := 23) (v := .int (M1 (sI q0 0) 0)) h.1 fl_X5_42 (ids_s hq0 0 (by decide)) (eS0 hq0 _) rfl dX5_firstFreeTick_23 ?_
      refine G_iload_n (pc := 26) h.1 dX5_firstFreeTick_26 rfl 2 rfl ?_
      refine G_iadd (pc := 27) h.1 dX5_firstFreeTick_27 ?_
      exact G_ret (pc := 28) h rfl dX5_firstFreeTick_28
set_option maxRecDepth 20000 in
theorem gd_X5_firstFreeTick_L2 {x : Cx} {y : Cy} (hy : Inj y) (h : OkM x y cX5_firstFreeTick RX5 3 (some .int) rX5_firstFreeTick) (q0 : Nat) (hq0 : q0 < 7) (a1 : Int32) (kx1 : Mem → Ans) (hx1 : ∀ M0 : Mem, G x y 35 [(0, .ref (y.2.1 (sI q0 0)))] [] M0 (kx1 M0)) : ∀ (n : Nat) (a2 : Int32) (M : Mem), G x y 2 [(0, .ref (y.2.1 (sI q0 0))), (1, .int a1), (2, .int a2)] [] M (d_X5_firstFreeTick_L2 q0 a1 kx1 n a2 M) := by
  intro n
  induction n with
  | zero => intro a2 M; exact G_none
  | succ n ih => intro a2 M; exact gd_X5_firstFreeTick_L2_body hy h q0 hq0 a1 kx1 hx1 _ ih a2 M
set_option maxRecDepth 20000 in
theorem c_X5_firstFreeTick (l : Launch) (y : Cy) (hy : Inj y) (q0 : Nat) (hq0 : q0 < 7) (p1 : Int32) (M : Mem) : CT l y yX5_firstFreeTick cX5_firstFreeTick 3 (some .int) rX5_firstFreeTick [.ref (y.2.1 (sI q0 0)), .int p1] M (d_X5_firstFreeTick q0 p1 M) := by
  refine CT_of (by decide) hy (Nat.le_of_ble_eq_true rfl) (fun x hxl h => ?_)
  show G x y 0 [(0, .ref (y.2.1 (sI q0 0))), (1, .int p1)] [] M _
  unfold d_X5_firstFreeTick
  refine G_iconst (pc := 0) (v := (0)) h.1 dX5_firstFreeTick_0 (by decide) ?_
  refine G_istore_n (pc := 1) h.1 h.2.1 [(2, .int (0 : Int32)), (0, .ref (y.2.1 (sI q0 0))), (1, .int p1)] dX5_firstFreeTick_1 rfl (by decide) rfl ?_
  refine G_sub [1, 2, 0] rfl (gd_X5_firstFreeTick_L2 hy h q0 hq0 p1 _ (fun M4 => ?_) fuelN (0 : Int32) M)
  refine G_aload_n (pc := 35) h.1 dX5_firstFreeTick_35 rfl 0 rfl ?_
  refine G_get (pc := 36) (v := .int (M4 (sI q0 0) 0)) h.1 fl_X5_42 (ids_s hq0 0 (by decide)) (eS0 hq0 _) rfl dX5_firstFreeTick_36 ?_
  refine G_bipush (pc := 39) (v := (89)) h.1 dX5_firstFreeTick_39 (by decide) ?_
  refine G_iadd (pc := 41) h.1 dX5_firstFreeTick_41 ?_
  exact G_ret (pc := 42) h rfl dX5_firstFreeTick_42
theorem dX6_append_0 : decode cX6_append 0 = .ok (.aload_n 0, 1) := by decide +kernel
theorem dX6_append_1 : decode cX6_append 1 = .ok (.getfield 25, 3) := by decide +kernel
theorem dX6_append_4 : decode cX6_append 4 = .ok (.ifCond .lt 32, 3) := by decide +kernel
theorem dX6_append_7 : decode cX6_append 7 = .ok (.aload_n 0, 1) := by decide +kernel
theorem dX6_append_8 : decode cX6_append 8 = .ok (.getfield 25, 3) := by decide +kernel
theorem dX6_append_11 : decode cX6_append 11 = .ok (.bipush 60, 2) := by decide +kernel
theorem dX6_append_13 : decode cX6_append 13 = .ok (.if_icmp .ge 23, 3) := by decide +kernel
theorem dX6_append_16 : decode cX6_append 16 = .ok (.aload_n 0, 1) := by decide +kernel
theorem dX6_append_17 : decode cX6_append 17 = .ok (.getfield 9, 3) := by decide +kernel
theorem dX6_append_20 : decode cX6_append 20 = .ok (.aload_n 0, 1) := by decide +kernel
theorem dX6_append_21 : decode cX6_append 21 = .ok (.getfield 25, 3) := by decide +kernel
theorem dX6_append_24 : decode cX6_append 24 = .ok (.iload_n 1, 1) := by decide +kernel
theorem dX6_append_25 : decode cX6_append 25 = .ok (.castore, 1) := by decide +kernel
theorem dX6_append_26 : decode cX6_append 26 = .ok (.aload_n 0, 1) := by decide +kernel
theorem dX6_append_27 : decode cX6_append 27 = .ok (.dup, 1) := by decide +kernel
theorem dX6_append_28 : decode cX6_append 28 = .ok (.getfield 25, 3) := by decide +kernel
theorem dX6_append_31 : decode cX6_append 31 = .ok (.iconst 1, 1) := by decide +kernel
theorem dX6_append_32 : decode cX6_append 32 = .ok (.iadd, 1) := by decide +kernel
theorem dX6_append_33 : decode cX6_append 33 = .ok (.putfield 25, 3) := by decide +kernel
theorem dX6_append_36 : decode cX6_append 36 = .ok (.aload_n 0, 1) := by decide +kernel
theorem dX6_append_37 : decode cX6_append 37 = .ok (.getfield 25, 3) := by decide +kernel
theorem dX6_append_40 : decode cX6_append 40 = .ok (.ireturn, 1) := by decide +kernel
abbrev rX6_append : Room := { frames := 0, cells := 0, slots := 0, locals := 0 }
set_option maxRecDepth 20000 in
theorem c_X6_append (l : Launch) (y : Cy) (hy : Inj y) (p1 : Int32) (M : Mem) : CT l y yX6_append cX6_append 2 (some .int) rX6_append [.ref (y.2.1 136), .int p1] M (d_X6_append p1 M) := by
  refine CT_of (by decide) hy (Nat.le_of_ble_eq_true rfl) (fun x hxl h => ?_)
  show G x y 0 [(0, .ref (y.2.1 136)), (1, .int p1)] [] M _
  unfold d_X6_append
  refine G_aload_n (pc := 0) h.1 dX6_append_0 rfl 0 rfl ?_
  refine G_get (pc := 1) (v := .int (M 136 1)) h.1 fl_X6_25 lN136 (eM136 _) rfl dX6_append_1 ?_
  refine G_if_lt (pc := 4) (tgt := 36) h.1 dX6_append_4 (by decide) ?_ ?_
  · refine G_aload_n (pc := 36) h.1 dX6_append_36 rfl 0 rfl ?_
    refine G_get (pc := 37) (v := .int (M 136 1)) h.1 fl_X6_25 lN136 (eM136 _) rfl dX6_append_37 ?_
    exact G_ret (pc := 40) h rfl dX6_append_40
  · refine G_aload_n (pc := 7) h.1 dX6_append_7 rfl 0 rfl ?_
    refine G_get (pc := 8) (v := .int (M 136 1)) h.1 fl_X6_25 lN136 (eM136 _) rfl dX6_append_8 ?_
    refine G_bipush (pc := 11) (v := (60)) h.1 dX6_append_11 (by decide) ?_
    refine G_icmp_ge (pc := 13) (tgt := 36) h.1 dX6_append_13 (by decide) ?_ ?_
    · refine G_aload_n (pc := 36) h.1 dX6_append_36 rfl 0 rfl ?_
      refine G_get (pc := 37) (v := .int (M 136 1)) h.1 fl_X6_25 lN136 (eM136 _) rfl dX6_append_37 ?_
      exact G_ret (pc := 40) h rfl dX6_append_40
    · refine G_aload_n (pc := 16) h.1 dX6_append_16 rfl 0 rfl ?_
      refine G_get (pc := 17) (v := .ref (y.2.1 137)) h.1 fl_X6_9 lN136 (eM136 _) rfl dX6_append_17 ?_
      refine G_aload_n (pc := 20) h.1 dX6_append_20 rfl 0 rfl ?_
      refine G_get (pc := 21) (v := .int (M 136 1)) h.1 fl_X6_25 lN136 (eM136 _) rfl dX6_append_21 ?_
      refine G_iload_n (pc := 24) h.1 dX6_append_24 rfl 1 rfl ?_
      refine G_cast (pc := 25) h.1 lN137 (fun m => eM137 m) dX6_append_25 (fun M1 => ?_)
      refine G_aload_n (pc := 26) h.1 dX6_append_26 rfl 0 rfl ?_
      refine G_dup (pc := 27) h.1 dX6_append_27 rfl ?_
      refine G_get (pc := 28) (v := .int (M1 136 1)) h.1 fl_X6_25 lN136 (eM136 _) rfl dX6_append_28 ?_
      refine G_iconst (pc := 31) (v := (1)) h.1 dX6_append_31 (by decide) ?_
      refine G_iadd (pc := 32) h.1 dX6_append_32 ?_
      refine G_put (pc := 33) h.1 fp_X6_25 lN136 (fun m => eM136 m) (fun _ => rfl) (fun _ => Nat.le_of_ble_eq_true rfl) rfl rfl dX6_append_33 (fun M2 => ?_)
      refine G_aload_n (pc := 36) h.1 dX6_append_36 rfl 0 rfl ?_
      refine G_get (pc := 37) (v := .int (M2 136 1)) h.1 fl_X6_25 lN136 (eM136 _) rfl dX6_append_37 ?_
      exact G_ret (pc := 40) h rfl dX6_append_40
theorem dX6_current_0 : decode cX6_current 0 = .ok (.aload_n 0, 1) := by decide +kernel
theorem dX6_current_1 : decode cX6_current 1 = .ok (.getfield 32, 3) := by decide +kernel
theorem dX6_current_4 : decode cX6_current 4 = .ok (.ifCond .lt 35, 3) := by decide +kernel
theorem dX6_current_7 : decode cX6_current 7 = .ok (.aload_n 0, 1) := by decide +kernel
theorem dX6_current_8 : decode cX6_current 8 = .ok (.getfield 32, 3) := by decide +kernel
theorem dX6_current_11 : decode cX6_current 11 = .ok (.aload_n 0, 1) := by decide +kernel
theorem dX6_current_12 : decode cX6_current 12 = .ok (.getfield 25, 3) := by decide +kernel
theorem dX6_current_15 : decode cX6_current 15 = .ok (.if_icmp .ge 24, 3) := by decide +kernel
theorem dX6_current_18 : decode cX6_current 18 = .ok (.aload_n 0, 1) := by decide +kernel
theorem dX6_current_19 : decode cX6_current 19 = .ok (.getfield 32, 3) := by decide +kernel
theorem dX6_current_22 : decode cX6_current 22 = .ok (.bipush 60, 2) := by decide +kernel
theorem dX6_current_24 : decode cX6_current 24 = .ok (.if_icmp .ge 15, 3) := by decide +kernel
theorem dX6_current_27 : decode cX6_current 27 = .ok (.aload_n 0, 1) := by decide +kernel
theorem dX6_current_28 : decode cX6_current 28 = .ok (.getfield 9, 3) := by decide +kernel
theorem dX6_current_31 : decode cX6_current 31 = .ok (.aload_n 0, 1) := by decide +kernel
theorem dX6_current_32 : decode cX6_current 32 = .ok (.getfield 32, 3) := by decide +kernel
theorem dX6_current_35 : decode cX6_current 35 = .ok (.caload, 1) := by decide +kernel
theorem dX6_current_36 : decode cX6_current 36 = .ok (.goto 4, 3) := by decide +kernel
theorem dX6_current_39 : decode cX6_current 39 = .ok (.iconst 0, 1) := by decide +kernel
theorem dX6_current_40 : decode cX6_current 40 = .ok (.ireturn, 1) := by decide +kernel
abbrev rX6_current : Room := { frames := 0, cells := 0, slots := 0, locals := 0 }
set_option maxRecDepth 20000 in
theorem c_X6_current (l : Launch) (y : Cy) (hy : Inj y) (M : Mem) : CT l y yX6_current cX6_current 1 (some .char) rX6_current [.ref (y.2.1 136)] M (d_X6_current M) := by
  refine CT_of (by decide) hy (Nat.le_of_ble_eq_true rfl) (fun x hxl h => ?_)
  show G x y 0 [(0, .ref (y.2.1 136))] [] M _
  unfold d_X6_current
  refine G_aload_n (pc := 0) h.1 dX6_current_0 rfl 0 rfl ?_
  refine G_get (pc := 1) (v := .int (M 136 6)) h.1 fl_X6_32 lN136 (eM136 _) rfl dX6_current_1 ?_
  refine G_if_lt (pc := 4) (tgt := 39) h.1 dX6_current_4 (by decide) ?_ ?_
  · refine G_iconst (pc := 39) (v := (0)) h.1 dX6_current_39 (by decide) ?_
    exact G_ret (pc := 40) h rfl dX6_current_40
  · refine G_aload_n (pc := 7) h.1 dX6_current_7 rfl 0 rfl ?_
    refine G_get (pc := 8) (v := .int (M 136 6)) h.1 fl_X6_32 lN136 (eM136 _) rfl dX6_current_8 ?_
    refine G_aload_n (pc := 11) h.1 dX6_current_11 rfl 0 rfl ?_
    refine G_get (pc := 12) (v := .int (M 136 1)) h.1 fl_X6_25 lN136 (eM136 _) rfl dX6_current_12 ?_
    refine G_icmp_ge (pc := 15) (tgt := 39) h.1 dX6_current_15 (by decide) ?_ ?_
    · refine G_iconst (pc := 39) (v := (0)) h.1 dX6_current_39 (by decide) ?_
      exact G_ret (pc := 40) h rfl dX6_current_40
    · refine G_aload_n (pc := 18) h.1 dX6_current_18 rfl 0 rfl ?_
      refine G_get (pc := 19) (v := .int (M 136 6)) h.1 fl_X6_32 lN136 (eM136 _) rfl dX6_current_19 ?_
      refine G_bipush (pc := 22) (v := (60)) h.1 dX6_current_22 (by decide) ?_
      refine G_icmp_ge (pc := 24) (tgt := 39) h.1 dX6_current_24 (by decide) ?_ ?_
      · refine G_iconst (pc := 39) (v := (0)) h.1 dX6_current_39 (by decide) ?_
        exact G_ret (pc := 40) h rfl dX6_current_40
      · refine G_aload_n (pc := 27) h.1 dX6_current_27 rfl 0 rfl ?_
        refine G_get (pc := 28) (v := .ref (y.2.1 137)) h.1 fl_X6_9 lN136 (eM136 _) rfl dX6_current_28 ?_
        refine G_aload_n (pc := 31) h.1 dX6_current_31 rfl 0 rfl ?_
        refine G_get (pc := 32) (v := .int (M 136 6)) h.1 fl_X6_32 lN136 (eM136 _) rfl dX6_current_32 ?_
        refine G_cald (pc := 35) h.1 lN137 (eM137 _) dX6_current_35 ?_
        refine G_goto (pc := 36) (tgt := 40) h.1 dX6_current_36 (by decide) ?_
        exact G_retN (pc := 40) h dX6_current_40
theorem dX6_isDigit_0 : decode cX6_isDigit 0 = .ok (.aload_n 0, 1) := by decide +kernel
theorem dX6_isDigit_1 : decode cX6_isDigit 1 = .ok (.invokevirtual 54, 3) := by decide +kernel
theorem dX6_isDigit_4 : decode cX6_isDigit 4 = .ok (.bipush 48, 2) := by decide +kernel
theorem dX6_isDigit_6 : decode cX6_isDigit 6 = .ok (.if_icmp .lt 16, 3) := by decide +kernel
theorem dX6_isDigit_9 : decode cX6_isDigit 9 = .ok (.aload_n 0, 1) := by decide +kernel
theorem dX6_isDigit_10 : decode cX6_isDigit 10 = .ok (.invokevirtual 54, 3) := by decide +kernel
theorem dX6_isDigit_13 : decode cX6_isDigit 13 = .ok (.bipush 57, 2) := by decide +kernel
theorem dX6_isDigit_15 : decode cX6_isDigit 15 = .ok (.if_icmp .gt 7, 3) := by decide +kernel
theorem dX6_isDigit_18 : decode cX6_isDigit 18 = .ok (.iconst 1, 1) := by decide +kernel
theorem dX6_isDigit_19 : decode cX6_isDigit 19 = .ok (.goto 4, 3) := by decide +kernel
theorem dX6_isDigit_22 : decode cX6_isDigit 22 = .ok (.iconst 0, 1) := by decide +kernel
theorem dX6_isDigit_23 : decode cX6_isDigit 23 = .ok (.ireturn, 1) := by decide +kernel
abbrev rX6_isDigit : Room := { frames := 1, cells := 0, slots := 0, locals := 20 }
set_option maxRecDepth 20000 in
theorem c_X6_isDigit (l : Launch) (y : Cy) (hy : Inj y) (M : Mem) : CT l y yX6_isDigit cX6_isDigit 1 (some .boolean) rX6_isDigit [.ref (y.2.1 136)] M (d_X6_isDigit M) := by
  refine CT_of (by decide) hy (Nat.le_of_ble_eq_true rfl) (fun x hxl h => ?_)
  show G x y 0 [(0, .ref (y.2.1 136))] [] M _
  unfold d_X6_isDigit
  refine G_aload_n (pc := 0) h.1 dX6_isDigit_0 rfl 0 rfl ?_
  refine G_callV (pc := 1) (As := []) (rest := []) h.1 h.2.2.1 lk_X6_54 lN136 (eM136 _) rfl rfl (c_X6_current x.1.2.1 y hy M) rfl rfl (Nat.le_of_ble_eq_true rfl) ⟨rfl, rfl, Nat.le_of_ble_eq_true rfl, Nat.le_of_ble_eq_true rfl⟩ dX6_isDigit_1 (fun r2 M1 => ?_)
  refine G_bipush (pc := 4) (v := (48)) h.1 dX6_isDigit_4 (by decide) ?_
  refine G_icmp_lt (pc := 6) (tgt := 22) h.1 dX6_isDigit_6 (by decide) ?_ ?_
  · refine G_iconst (pc := 22) (v := (0)) h.1 dX6_isDigit_22 (by decide) ?_
    exact G_ret (pc := 23) h rfl dX6_isDigit_23
  · refine G_aload_n (pc := 9) h.1 dX6_isDigit_9 rfl 0 rfl ?_
    refine G_callV (pc := 10) (As := []) (rest := []) h.1 h.2.2.1 lk_X6_54 lN136 (eM136 _) rfl rfl (c_X6_current x.1.2.1 y hy M1) rfl rfl (Nat.le_of_ble_eq_true rfl) ⟨rfl, rfl, Nat.le_of_ble_eq_true rfl, Nat.le_of_ble_eq_true rfl⟩ dX6_isDigit_10 (fun r4 M3 => ?_)
    refine G_bipush (pc := 13) (v := (57)) h.1 dX6_isDigit_13 (by decide) ?_
    refine G_icmp_gt (pc := 15) (tgt := 22) h.1 dX6_isDigit_15 (by decide) ?_ ?_
    · refine G_iconst (pc := 22) (v := (0)) h.1 dX6_isDigit_22 (by decide) ?_
      exact G_ret (pc := 23) h rfl dX6_isDigit_23
    · refine G_iconst (pc := 18) (v := (1)) h.1 dX6_isDigit_18 (by decide) ?_
      refine G_goto (pc := 19) (tgt := 23) h.1 dX6_isDigit_19 (by decide) ?_
      exact G_ret (pc := 23) h rfl dX6_isDigit_23
theorem dX6_takeDigit_0 : decode cX6_takeDigit 0 = .ok (.aload_n 0, 1) := by decide +kernel
theorem dX6_takeDigit_1 : decode cX6_takeDigit 1 = .ok (.invokevirtual 54, 3) := by decide +kernel
theorem dX6_takeDigit_4 : decode cX6_takeDigit 4 = .ok (.bipush 48, 2) := by decide +kernel
theorem dX6_takeDigit_6 : decode cX6_takeDigit 6 = .ok (.isub, 1) := by decide +kernel
theorem dX6_takeDigit_7 : decode cX6_takeDigit 7 = .ok (.istore_n 1, 1) := by decide +kernel
theorem dX6_takeDigit_8 : decode cX6_takeDigit 8 = .ok (.aload_n 0, 1) := by decide +kernel
theorem dX6_takeDigit_9 : decode cX6_takeDigit 9 = .ok (.dup, 1) := by decide +kernel
theorem dX6_takeDigit_10 : decode cX6_takeDigit 10 = .ok (.getfield 32, 3) := by decide +kernel
theorem dX6_takeDigit_13 : decode cX6_takeDigit 13 = .ok (.iconst 1, 1) := by decide +kernel
theorem dX6_takeDigit_14 : decode cX6_takeDigit 14 = .ok (.iadd, 1) := by decide +kernel
theorem dX6_takeDigit_15 : decode cX6_takeDigit 15 = .ok (.putfield 32, 3) := by decide +kernel
theorem dX6_takeDigit_18 : decode cX6_takeDigit 18 = .ok (.iload_n 1, 1) := by decide +kernel
theorem dX6_takeDigit_19 : decode cX6_takeDigit 19 = .ok (.ireturn, 1) := by decide +kernel
abbrev rX6_takeDigit : Room := { frames := 1, cells := 0, slots := 0, locals := 20 }
set_option maxRecDepth 20000 in
theorem c_X6_takeDigit (l : Launch) (y : Cy) (hy : Inj y) (M : Mem) : CT l y yX6_takeDigit cX6_takeDigit 2 (some .int) rX6_takeDigit [.ref (y.2.1 136)] M (d_X6_takeDigit M) := by
  refine CT_of (by decide) hy (Nat.le_of_ble_eq_true rfl) (fun x hxl h => ?_)
  show G x y 0 [(0, .ref (y.2.1 136))] [] M _
  unfold d_X6_takeDigit
  refine G_aload_n (pc := 0) h.1 dX6_takeDigit_0 rfl 0 rfl ?_
  refine G_callV (pc := 1) (As := []) (rest := []) h.1 h.2.2.1 lk_X6_54 lN136 (eM136 _) rfl rfl (c_X6_current x.1.2.1 y hy M) rfl rfl (Nat.le_of_ble_eq_true rfl) ⟨rfl, rfl, Nat.le_of_ble_eq_true rfl, Nat.le_of_ble_eq_true rfl⟩ dX6_takeDigit_1 (fun r2 M1 => ?_)
  refine G_bipush (pc := 4) (v := (48)) h.1 dX6_takeDigit_4 (by decide) ?_
  refine G_isub (pc := 6) h.1 dX6_takeDigit_6 ?_
  refine G_top (fun v3 => ?_)
  refine G_istore_n (pc := 7) h.1 h.2.1 [(1, .int v3), (0, .ref (y.2.1 136))] dX6_takeDigit_7 rfl (by decide) rfl ?_
  refine G_aload_n (pc := 8) h.1 dX6_takeDigit_8 rfl 1 rfl ?_
  refine G_dup (pc := 9) h.1 dX6_takeDigit_9 rfl ?_
  refine G_get (pc := 10) (v := .int (M1 136 6)) h.1 fl_X6_32 lN136 (eM136 _) rfl dX6_takeDigit_10 ?_
  refine G_iconst (pc := 13) (v := (1)) h.1 dX6_takeDigit_13 (by decide) ?_
  refine G_iadd (pc := 14) h.1 dX6_takeDigit_14 ?_
  refine G_put (pc := 15) h.1 fp_X6_32 lN136 (fun m => eM136 m) (fun _ => rfl) (fun _ => Nat.le_of_ble_eq_true rfl) rfl rfl dX6_takeDigit_15 (fun M4 => ?_)
  refine G_iload_n (pc := 18) h.1 dX6_takeDigit_18 rfl 0 rfl ?_
  exact G_ret (pc := 19) h rfl dX6_takeDigit_19
theorem dX6_skip_0 : decode cX6_skip 0 = .ok (.aload_n 0, 1) := by decide +kernel
theorem dX6_skip_1 : decode cX6_skip 1 = .ok (.invokevirtual 54, 3) := by decide +kernel
theorem dX6_skip_4 : decode cX6_skip 4 = .ok (.iload_n 1, 1) := by decide +kernel
theorem dX6_skip_5 : decode cX6_skip 5 = .ok (.if_icmp .eq 5, 3) := by decide +kernel
theorem dX6_skip_8 : decode cX6_skip 8 = .ok (.iconst 0, 1) := by decide +kernel
theorem dX6_skip_9 : decode cX6_skip 9 = .ok (.ireturn, 1) := by decide +kernel
theorem dX6_skip_10 : decode cX6_skip 10 = .ok (.aload_n 0, 1) := by decide +kernel
theorem dX6_skip_11 : decode cX6_skip 11 = .ok (.dup, 1) := by decide +kernel
theorem dX6_skip_12 : decode cX6_skip 12 = .ok (.getfield 32, 3) := by decide +kernel
theorem dX6_skip_15 : decode cX6_skip 15 = .ok (.iconst 1, 1) := by decide +kernel
theorem dX6_skip_16 : decode cX6_skip 16 = .ok (.iadd, 1) := by decide +kernel
theorem dX6_skip_17 : decode cX6_skip 17 = .ok (.putfield 32, 3) := by decide +kernel
theorem dX6_skip_20 : decode cX6_skip 20 = .ok (.iconst 1, 1) := by decide +kernel
theorem dX6_skip_21 : decode cX6_skip 21 = .ok (.ireturn, 1) := by decide +kernel
abbrev rX6_skip : Room := { frames := 1, cells := 0, slots := 0, locals := 20 }
set_option maxRecDepth 20000 in
theorem c_X6_skip (l : Launch) (y : Cy) (hy : Inj y) (p1 : Int32) (M : Mem) : CT l y yX6_skip cX6_skip 2 (some .boolean) rX6_skip [.ref (y.2.1 136), .int p1] M (d_X6_skip p1 M) := by
  refine CT_of (by decide) hy (Nat.le_of_ble_eq_true rfl) (fun x hxl h => ?_)
  show G x y 0 [(0, .ref (y.2.1 136)), (1, .int p1)] [] M _
  unfold d_X6_skip
  refine G_aload_n (pc := 0) h.1 dX6_skip_0 rfl 0 rfl ?_
  refine G_callV (pc := 1) (As := []) (rest := []) h.1 h.2.2.1 lk_X6_54 lN136 (eM136 _) rfl rfl (c_X6_current x.1.2.1 y hy M) rfl rfl (Nat.le_of_ble_eq_true rfl) ⟨rfl, rfl, Nat.le_of_ble_eq_true rfl, Nat.le_of_ble_eq_true rfl⟩ dX6_skip_1 (fun r2 M1 => ?_)
  refine G_iload_n (pc := 4) h.1 dX6_skip_4 rfl 1 rfl ?_
  refine G_icmp_eq (pc := 5) (tgt := 10) h.1 dX6_skip_5 (by decide) ?_ ?_
  · refine G_aload_n (pc := 10) h.1 dX6_skip_10 rfl 0 rfl ?_
    refine G_dup (pc := 11) h.1 dX6_skip_11 rfl ?_
    refine G_get (pc := 12) (v := .int (M1 136 6)) h.1 fl_X6_32 lN136 (eM136 _) rfl dX6_skip_12 ?_
    refine G_iconst (pc := 15) (v := (1)) h.1 dX6_skip_15 (by decide) ?_
    refine G_iadd (pc := 16) h.1 dX6_skip_16 ?_
    refine G_put (pc := 17) h.1 fp_X6_32 lN136 (fun m => eM136 m) (fun _ => rfl) (fun _ => Nat.le_of_ble_eq_true rfl) rfl rfl dX6_skip_17 (fun M3 => ?_)
    refine G_iconst (pc := 20) (v := (1)) h.1 dX6_skip_20 (by decide) ?_
    exact G_ret (pc := 21) h rfl dX6_skip_21
  · refine G_iconst (pc := 8) (v := (0)) h.1 dX6_skip_8 (by decide) ?_
    exact G_ret (pc := 9) h rfl dX6_skip_9
theorem dX6_takeStart_0 : decode cX6_takeStart 0 = .ok (.aload_n 0, 1) := by decide +kernel
theorem dX6_takeStart_1 : decode cX6_takeStart 1 = .ok (.invokevirtual 47, 3) := by decide +kernel
theorem dX6_takeStart_4 : decode cX6_takeStart 4 = .ok (.istore_n 1, 1) := by decide +kernel
theorem dX6_takeStart_5 : decode cX6_takeStart 5 = .ok (.iload_n 1, 1) := by decide +kernel
theorem dX6_takeStart_6 : decode cX6_takeStart 6 = .ok (.ifCond .ne 5, 3) := by decide +kernel
theorem dX6_takeStart_9 : decode cX6_takeStart 9 = .ok (.iconst 0, 1) := by decide +kernel
theorem dX6_takeStart_10 : decode cX6_takeStart 10 = .ok (.ireturn, 1) := by decide +kernel
theorem dX6_takeStart_11 : decode cX6_takeStart 11 = .ok (.iconst 1, 1) := by decide +kernel
theorem dX6_takeStart_12 : decode cX6_takeStart 12 = .ok (.istore_n 2, 1) := by decide +kernel
theorem dX6_takeStart_13 : decode cX6_takeStart 13 = .ok (.iload_n 2, 1) := by decide +kernel
theorem dX6_takeStart_14 : decode cX6_takeStart 14 = .ok (.iconst 4, 1) := by decide +kernel
theorem dX6_takeStart_15 : decode cX6_takeStart 15 = .ok (.if_icmp .ge 26, 3) := by decide +kernel
theorem dX6_takeStart_18 : decode cX6_takeStart 18 = .ok (.aload_n 0, 1) := by decide +kernel
theorem dX6_takeStart_19 : decode cX6_takeStart 19 = .ok (.invokevirtual 43, 3) := by decide +kernel
theorem dX6_takeStart_22 : decode cX6_takeStart 22 = .ok (.ifCond .eq 19, 3) := by decide +kernel
theorem dX6_takeStart_25 : decode cX6_takeStart 25 = .ok (.iload_n 1, 1) := by decide +kernel
theorem dX6_takeStart_26 : decode cX6_takeStart 26 = .ok (.bipush 10, 2) := by decide +kernel
theorem dX6_takeStart_28 : decode cX6_takeStart 28 = .ok (.imul, 1) := by decide +kernel
theorem dX6_takeStart_29 : decode cX6_takeStart 29 = .ok (.aload_n 0, 1) := by decide +kernel
theorem dX6_takeStart_30 : decode cX6_takeStart 30 = .ok (.invokevirtual 47, 3) := by decide +kernel
theorem dX6_takeStart_33 : decode cX6_takeStart 33 = .ok (.iadd, 1) := by decide +kernel
theorem dX6_takeStart_34 : decode cX6_takeStart 34 = .ok (.istore_n 1, 1) := by decide +kernel
theorem dX6_takeStart_35 : decode cX6_takeStart 35 = .ok (.iinc 2 1, 3) := by decide +kernel
theorem dX6_takeStart_38 : decode cX6_takeStart 38 = .ok (.goto (-25), 3) := by decide +kernel
theorem dX6_takeStart_41 : decode cX6_takeStart 41 = .ok (.iload_n 1, 1) := by decide +kernel
theorem dX6_takeStart_42 : decode cX6_takeStart 42 = .ok (.ireturn, 1) := by decide +kernel
abbrev rX6_takeStart : Room := { frames := 2, cells := 0, slots := 0, locals := 41 }
set_option maxRecDepth 20000 in
theorem gd_X6_takeStart_L13_body {x : Cx} {y : Cy} (hy : Inj y) (h : OkM x y cX6_takeStart RX6 3 (some .int) rX6_takeStart) (kx1 : Int32 → Mem → Ans) (hx1 : ∀ (b1 : Int32), ∀ M0 : Mem, G x y 41 [(1, .int b1)] [] M0 (kx1 b1 M0)) (kb : Int32 → Int32 → Mem → Ans) (hb : ∀ (b1 b2 : Int32), ∀ M0 : Mem, G x y 13 [(0, .ref (y.2.1 136)), (1, .int b1), (2, .int b2)] [] M0 (kb b1 b2 M0)) (a1 : Int32) (a2 : Int32) (M : Mem) : G x y 13 [(0, .ref (y.2.1 136)), (1, .int a1), (2, .int a2)] [] M (d_X6_takeStart_L13_body kx1 kb a1 a2 M) := by
  unfold d_X6_takeStart_L13_body
  refine G_iload_n (pc := 13) h.1 dX6_takeStart_13 rfl 2 rfl ?_
  refine G_iconst (pc := 14) (v := (4)) h.1 dX6_takeStart_14 (by decide) ?_
  refine G_icmp_ge (pc := 15) (tgt := 41) h.1 dX6_takeStart_15 (by decide) ?_ ?_
  · exact G_sub [1] rfl (hx1 a1 M)
  · refine G_aload_n (pc := 18) h.1 dX6_takeStart_18 rfl 0 rfl ?_
    refine G_callV (pc := 19) (As := []) (rest := []) h.1 h.2.2.1 lk_X6_43 lN136 (eM136 _) rfl rfl (c_X6_isDigit x.1.2.1 y hy M) rfl rfl (Nat.le_of_ble_eq_true rfl) ⟨rfl, rfl, Nat.le_of_ble_eq_true rfl, Nat.le_of_ble_eq_true rfl⟩ dX6_takeStart_19 (fun r4 M3 => ?_)
    refine G_if_eq (pc := 22) (tgt := 41) h.1 dX6_takeStart_22 (by decide) ?_ ?_
    · exact G_sub [1] rfl (hx1 a1 M3)
    · refine G_iload_n (pc := 25) h.1 dX6_takeStart_25 rfl 1 rfl ?_
      refine G_bipush (pc := 26) (v := (10)) h.1 dX6_takeStart_26 (by decide) ?_
      refine G_imul (pc := 28) h.1 dX6_takeStart_28 ?_
      refine G_aload_n (pc := 29) h.1 dX6_takeStart_29 rfl 0 rfl ?_
      refine G_callV (pc := 30) (As := []) (rest := [.int (a1 * (10 : Int32))]) h.1 h.2.2.1 lk_X6_47 lN136 (eM136 _) rfl rfl (c_X6_takeDigit x.1.2.1 y hy M3) rfl rfl (Nat.le_of_ble_eq_true rfl) ⟨rfl, rfl, Nat.le_of_ble_eq_true rfl, Nat.le_of_ble_eq_true rfl⟩ dX6_takeStart_30 (fun r6 M5 => ?_)
      refine G_iadd (pc := 33) h.1 dX6_takeStart_33 ?_
      refine G_top (fun v7 => ?_)
      refine G_istore_n (pc := 34) h.1 h.2.1 [(1, .int v7), (0, .ref (y.2.1 136)), (2, .int a2)] dX6_takeStart_34 rfl (by decide) rfl ?_
      refine G_iinc (pc := 35) (v := a2 + (1)) h.1 h.2.1 (fun v8 => [(2, .int v8), (1, .int v7), (0, .ref (y.2.1 136))]) dX6_takeStart_35 (by decide) 2 rfl rfl (fun _ => rfl) (fun v8 => ?_)
      refine G_goto (pc := 38) (tgt := 13) h.1 dX6_takeStart_38 (by decide) ?_
      exact G_sub [2, 1, 0] rfl (hb v7 v8 M5)
set_option maxRecDepth 20000 in
theorem gd_X6_takeStart_L13 {x : Cx} {y : Cy} (hy : Inj y) (h : OkM x y cX6_takeStart RX6 3 (some .int) rX6_takeStart) (kx1 : Int32 → Mem → Ans) (hx1 : ∀ (b1 : Int32), ∀ M0 : Mem, G x y 41 [(1, .int b1)] [] M0 (kx1 b1 M0)) : ∀ (n : Nat) (a1 : Int32) (a2 : Int32) (M : Mem), G x y 13 [(0, .ref (y.2.1 136)), (1, .int a1), (2, .int a2)] [] M (d_X6_takeStart_L13 kx1 n a1 a2 M) := by
  intro n
  induction n with
  | zero => intro a1 a2 M; exact G_none
  | succ n ih => intro a1 a2 M; exact gd_X6_takeStart_L13_body hy h kx1 hx1 _ ih a1 a2 M
set_option maxRecDepth 20000 in
theorem c_X6_takeStart (l : Launch) (y : Cy) (hy : Inj y) (M : Mem) : CT l y yX6_takeStart cX6_takeStart 3 (some .int) rX6_takeStart [.ref (y.2.1 136)] M (d_X6_takeStart M) := by
  refine CT_of (by decide) hy (Nat.le_of_ble_eq_true rfl) (fun x hxl h => ?_)
  show G x y 0 [(0, .ref (y.2.1 136))] [] M _
  unfold d_X6_takeStart
  refine G_aload_n (pc := 0) h.1 dX6_takeStart_0 rfl 0 rfl ?_
  refine G_callV (pc := 1) (As := []) (rest := []) h.1 h.2.2.1 lk_X6_47 lN136 (eM136 _) rfl rfl (c_X6_takeDigit x.1.2.1 y hy M) rfl rfl (Nat.le_of_ble_eq_true rfl) ⟨rfl, rfl, Nat.le_of_ble_eq_true rfl, Nat.le_of_ble_eq_true rfl⟩ dX6_takeStart_1 (fun r2 M1 => ?_)
  refine G_istore_n (pc := 4) h.1 h.2.1 [(1, .int r2), (0, .ref (y.2.1 136))] dX6_takeStart_4 rfl (by decide) rfl ?_
  refine G_iload_n (pc := 5) h.1 dX6_takeStart_5 rfl 0 rfl ?_
  refine G_if_ne (pc := 6) (tgt := 11) h.1 dX6_takeStart_6 (by decide) ?_ ?_
  · refine G_iconst (pc := 11) (v := (1)) h.1 dX6_takeStart_11 (by decide) ?_
    refine G_istore_n (pc := 12) h.1 h.2.1 [(2, .int (1 : Int32)), (1, .int r2), (0, .ref (y.2.1 136))] dX6_takeStart_12 rfl (by decide) rfl ?_
    refine G_sub [2, 1, 0] rfl (gd_X6_takeStart_L13 hy h _ (fun v9 M10 => ?_) fuelN r2 (1 : Int32) M1)
    refine G_iload_n (pc := 41) h.1 dX6_takeStart_41 rfl 0 rfl ?_
    exact G_ret (pc := 42) h rfl dX6_takeStart_42
  · refine G_iconst (pc := 9) (v := (0)) h.1 dX6_takeStart_9 (by decide) ?_
    exact G_ret (pc := 10) h rfl dX6_takeStart_10
theorem dX6_readEntry_0 : decode cX6_readEntry 0 = .ok (.iload_n 1, 1) := by decide +kernel
theorem dX6_readEntry_1 : decode cX6_readEntry 1 = .ok (.ifCond .lt 16, 3) := by decide +kernel
theorem dX6_readEntry_4 : decode cX6_readEntry 4 = .ok (.iload_n 1, 1) := by decide +kernel
theorem dX6_readEntry_5 : decode cX6_readEntry 5 = .ok (.bipush 10, 2) := by decide +kernel
theorem dX6_readEntry_7 : decode cX6_readEntry 7 = .ok (.if_icmp .ge 10, 3) := by decide +kernel
theorem dX6_readEntry_10 : decode cX6_readEntry 10 = .ok (.aload_n 0, 1) := by decide +kernel
theorem dX6_readEntry_11 : decode cX6_readEntry 11 = .ok (.invokevirtual 43, 3) := by decide +kernel
theorem dX6_readEntry_14 : decode cX6_readEntry 14 = .ok (.ifCond .ne 5, 3) := by decide +kernel
theorem dX6_readEntry_17 : decode cX6_readEntry 17 = .ok (.iconst 0, 1) := by decide +kernel
theorem dX6_readEntry_18 : decode cX6_readEntry 18 = .ok (.ireturn, 1) := by decide +kernel
theorem dX6_readEntry_19 : decode cX6_readEntry 19 = .ok (.aload_n 0, 1) := by decide +kernel
theorem dX6_readEntry_20 : decode cX6_readEntry 20 = .ok (.getfield 15, 3) := by decide +kernel
theorem dX6_readEntry_23 : decode cX6_readEntry 23 = .ok (.iload_n 1, 1) := by decide +kernel
theorem dX6_readEntry_24 : decode cX6_readEntry 24 = .ok (.aload_n 0, 1) := by decide +kernel
theorem dX6_readEntry_25 : decode cX6_readEntry 25 = .ok (.invokevirtual 47, 3) := by decide +kernel
theorem dX6_readEntry_28 : decode cX6_readEntry 28 = .ok (.iastore, 1) := by decide +kernel
theorem dX6_readEntry_29 : decode cX6_readEntry 29 = .ok (.aload_n 0, 1) := by decide +kernel
theorem dX6_readEntry_30 : decode cX6_readEntry 30 = .ok (.bipush 58, 2) := by decide +kernel
theorem dX6_readEntry_32 : decode cX6_readEntry 32 = .ok (.invokevirtual 39, 3) := by decide +kernel
theorem dX6_readEntry_35 : decode cX6_readEntry 35 = .ok (.ifCond .eq 10, 3) := by decide +kernel
theorem dX6_readEntry_38 : decode cX6_readEntry 38 = .ok (.aload_n 0, 1) := by decide +kernel
theorem dX6_readEntry_39 : decode cX6_readEntry 39 = .ok (.invokevirtual 43, 3) := by decide +kernel
theorem dX6_readEntry_42 : decode cX6_readEntry 42 = .ok (.ifCond .ne 5, 3) := by decide +kernel
theorem dX6_readEntry_45 : decode cX6_readEntry 45 = .ok (.iconst 0, 1) := by decide +kernel
theorem dX6_readEntry_46 : decode cX6_readEntry 46 = .ok (.ireturn, 1) := by decide +kernel
theorem dX6_readEntry_47 : decode cX6_readEntry 47 = .ok (.aload_n 0, 1) := by decide +kernel
theorem dX6_readEntry_48 : decode cX6_readEntry 48 = .ok (.getfield 19, 3) := by decide +kernel
theorem dX6_readEntry_51 : decode cX6_readEntry 51 = .ok (.iload_n 1, 1) := by decide +kernel
theorem dX6_readEntry_52 : decode cX6_readEntry 52 = .ok (.aload_n 0, 1) := by decide +kernel
theorem dX6_readEntry_53 : decode cX6_readEntry 53 = .ok (.invokevirtual 47, 3) := by decide +kernel
theorem dX6_readEntry_56 : decode cX6_readEntry 56 = .ok (.iastore, 1) := by decide +kernel
theorem dX6_readEntry_57 : decode cX6_readEntry 57 = .ok (.aload_n 0, 1) := by decide +kernel
theorem dX6_readEntry_58 : decode cX6_readEntry 58 = .ok (.bipush 64, 2) := by decide +kernel
theorem dX6_readEntry_60 : decode cX6_readEntry 60 = .ok (.invokevirtual 39, 3) := by decide +kernel
theorem dX6_readEntry_63 : decode cX6_readEntry 63 = .ok (.ifCond .eq 10, 3) := by decide +kernel
theorem dX6_readEntry_66 : decode cX6_readEntry 66 = .ok (.aload_n 0, 1) := by decide +kernel
theorem dX6_readEntry_67 : decode cX6_readEntry 67 = .ok (.invokevirtual 43, 3) := by decide +kernel
theorem dX6_readEntry_70 : decode cX6_readEntry 70 = .ok (.ifCond .ne 5, 3) := by decide +kernel
theorem dX6_readEntry_73 : decode cX6_readEntry 73 = .ok (.iconst 0, 1) := by decide +kernel
theorem dX6_readEntry_74 : decode cX6_readEntry 74 = .ok (.ireturn, 1) := by decide +kernel
theorem dX6_readEntry_75 : decode cX6_readEntry 75 = .ok (.aload_n 0, 1) := by decide +kernel
theorem dX6_readEntry_76 : decode cX6_readEntry 76 = .ok (.getfield 22, 3) := by decide +kernel
theorem dX6_readEntry_79 : decode cX6_readEntry 79 = .ok (.iload_n 1, 1) := by decide +kernel
theorem dX6_readEntry_80 : decode cX6_readEntry 80 = .ok (.aload_n 0, 1) := by decide +kernel
theorem dX6_readEntry_81 : decode cX6_readEntry 81 = .ok (.invokevirtual 51, 3) := by decide +kernel
theorem dX6_readEntry_84 : decode cX6_readEntry 84 = .ok (.iastore, 1) := by decide +kernel
theorem dX6_readEntry_85 : decode cX6_readEntry 85 = .ok (.iconst 1, 1) := by decide +kernel
theorem dX6_readEntry_86 : decode cX6_readEntry 86 = .ok (.ireturn, 1) := by decide +kernel
abbrev rX6_readEntry : Room := { frames := 3, cells := 0, slots := 0, locals := 63 }
set_option maxRecDepth 20000 in
theorem c_X6_readEntry (l : Launch) (y : Cy) (hy : Inj y) (p1 : Int32) (M : Mem) : CT l y yX6_readEntry cX6_readEntry 2 (some .boolean) rX6_readEntry [.ref (y.2.1 136), .int p1] M (d_X6_readEntry p1 M) := by
  refine CT_of (by decide) hy (Nat.le_of_ble_eq_true rfl) (fun x hxl h => ?_)
  show G x y 0 [(0, .ref (y.2.1 136)), (1, .int p1)] [] M _
  unfold d_X6_readEntry
  refine G_iload_n (pc := 0) h.1 dX6_readEntry_0 rfl 1 rfl ?_
  refine G_if_lt (pc := 1) (tgt := 17) h.1 dX6_readEntry_1 (by decide) ?_ ?_
  · refine G_iconst (pc := 17) (v := (0)) h.1 dX6_readEntry_17 (by decide) ?_
    exact G_ret (pc := 18) h rfl dX6_readEntry_18
  · refine G_iload_n (pc := 4) h.1 dX6_readEntry_4 rfl 1 rfl ?_
    refine G_bipush (pc := 5) (v := (10)) h.1 dX6_readEntry_5 (by decide) ?_
    refine G_icmp_ge (pc := 7) (tgt := 17) h.1 dX6_readEntry_7 (by decide) ?_ ?_
    · refine G_iconst (pc := 17) (v := (0)) h.1 dX6_readEntry_17 (by decide) ?_
      exact G_ret (pc := 18) h rfl dX6_readEntry_18
    · refine G_aload_n (pc := 10) h.1 dX6_readEntry_10 rfl 0 rfl ?_
      refine G_callV (pc := 11) (As := []) (rest := []) h.1 h.2.2.1 lk_X6_43 lN136 (eM136 _) rfl rfl (c_X6_isDigit x.1.2.1 y hy M) rfl rfl (Nat.le_of_ble_eq_true rfl) ⟨rfl, rfl, Nat.le_of_ble_eq_true rfl, Nat.le_of_ble_eq_true rfl⟩ dX6_readEntry_11 (fun r2 M1 => ?_)
      refine G_if_ne (pc := 14) (tgt := 19) h.1 dX6_readEntry_14 (by decide) ?_ ?_
      · refine G_aload_n (pc := 19) h.1 dX6_readEntry_19 rfl 0 rfl ?_
        refine G_get (pc := 20) (v := .ref (y.2.1 138)) h.1 fl_X6_15 lN136 (eM136 _) rfl dX6_readEntry_20 ?_
        refine G_iload_n (pc := 23) h.1 dX6_readEntry_23 rfl 1 rfl ?_
        refine G_aload_n (pc := 24) h.1 dX6_readEntry_24 rfl 0 rfl ?_
        refine G_callV (pc := 25) (As := []) (rest := [.int p1, .ref (y.2.1 138)]) h.1 h.2.2.1 lk_X6_47 lN136 (eM136 _) rfl rfl (c_X6_takeDigit x.1.2.1 y hy M1) rfl rfl (Nat.le_of_ble_eq_true rfl) ⟨rfl, rfl, Nat.le_of_ble_eq_true rfl, Nat.le_of_ble_eq_true rfl⟩ dX6_readEntry_25 (fun r4 M3 => ?_)
        refine G_iast (pc := 28) h.1 lN138 (fun m => eM138 m) dX6_readEntry_28 (fun M5 => ?_)
        refine G_aload_n (pc := 29) h.1 dX6_readEntry_29 rfl 0 rfl ?_
        refine G_bipush (pc := 30) (v := (58)) h.1 dX6_readEntry_30 (by decide) ?_
        refine G_callV (pc := 32) (As := [.int (58 : Int32)]) (rest := []) h.1 h.2.2.1 lk_X6_39 lN136 (eM136 _) rfl rfl (c_X6_skip x.1.2.1 y hy (58 : Int32) M5) rfl rfl (Nat.le_of_ble_eq_true rfl) ⟨rfl, rfl, Nat.le_of_ble_eq_true rfl, Nat.le_of_ble_eq_true rfl⟩ dX6_readEntry_32 (fun r7 M6 => ?_)
        refine G_if_eq (pc := 35) (tgt := 45) h.1 dX6_readEntry_35 (by decide) ?_ ?_
        · refine G_iconst (pc := 45) (v := (0)) h.1 dX6_readEntry_45 (by decide) ?_
          exact G_ret (pc := 46) h rfl dX6_readEntry_46
        · refine G_aload_n (pc := 38) h.1 dX6_readEntry_38 rfl 0 rfl ?_
          refine G_callV (pc := 39) (As := []) (rest := []) h.1 h.2.2.1 lk_X6_43 lN136 (eM136 _) rfl rfl (c_X6_isDigit x.1.2.1 y hy M6) rfl rfl (Nat.le_of_ble_eq_true rfl) ⟨rfl, rfl, Nat.le_of_ble_eq_true rfl, Nat.le_of_ble_eq_true rfl⟩ dX6_readEntry_39 (fun r9 M8 => ?_)
          refine G_if_ne (pc := 42) (tgt := 47) h.1 dX6_readEntry_42 (by decide) ?_ ?_
          · refine G_aload_n (pc := 47) h.1 dX6_readEntry_47 rfl 0 rfl ?_
            refine G_get (pc := 48) (v := .ref (y.2.1 139)) h.1 fl_X6_19 lN136 (eM136 _) rfl dX6_readEntry_48 ?_
            refine G_iload_n (pc := 51) h.1 dX6_readEntry_51 rfl 1 rfl ?_
            refine G_aload_n (pc := 52) h.1 dX6_readEntry_52 rfl 0 rfl ?_
            refine G_callV (pc := 53) (As := []) (rest := [.int p1, .ref (y.2.1 139)]) h.1 h.2.2.1 lk_X6_47 lN136 (eM136 _) rfl rfl (c_X6_takeDigit x.1.2.1 y hy M8) rfl rfl (Nat.le_of_ble_eq_true rfl) ⟨rfl, rfl, Nat.le_of_ble_eq_true rfl, Nat.le_of_ble_eq_true rfl⟩ dX6_readEntry_53 (fun r11 M10 => ?_)
            refine G_iast (pc := 56) h.1 lN139 (fun m => eM139 m) dX6_readEntry_56 (fun M12 => ?_)
            refine G_aload_n (pc := 57) h.1 dX6_readEntry_57 rfl 0 rfl ?_
            refine G_bipush (pc := 58) (v := (64)) h.1 dX6_readEntry_58 (by decide) ?_
            refine G_callV (pc := 60) (As := [.int (64 : Int32)]) (rest := []) h.1 h.2.2.1 lk_X6_39 lN136 (eM136 _) rfl rfl (c_X6_skip x.1.2.1 y hy (64 : Int32) M12) rfl rfl (Nat.le_of_ble_eq_true rfl) ⟨rfl, rfl, Nat.le_of_ble_eq_true rfl, Nat.le_of_ble_eq_true rfl⟩ dX6_readEntry_60 (fun r14 M13 => ?_)
            refine G_if_eq (pc := 63) (tgt := 73) h.1 dX6_readEntry_63 (by decide) ?_ ?_
            · refine G_iconst (pc := 73) (v := (0)) h.1 dX6_readEntry_73 (by decide) ?_
              exact G_ret (pc := 74) h rfl dX6_readEntry_74
            · refine G_aload_n (pc := 66) h.1 dX6_readEntry_66 rfl 0 rfl ?_
              refine G_callV (pc := 67) (As := []) (rest := []) h.1 h.2.2.1 lk_X6_43 lN136 (eM136 _) rfl rfl (c_X6_isDigit x.1.2.1 y hy M13) rfl rfl (Nat.le_of_ble_eq_true rfl) ⟨rfl, rfl, Nat.le_of_ble_eq_true rfl, Nat.le_of_ble_eq_true rfl⟩ dX6_readEntry_67 (fun r16 M15 => ?_)
              refine G_if_ne (pc := 70) (tgt := 75) h.1 dX6_readEntry_70 (by decide) ?_ ?_
              · refine G_aload_n (pc := 75) h.1 dX6_readEntry_75 rfl 0 rfl ?_
                refine G_get (pc := 76) (v := .ref (y.2.1 140)) h.1 fl_X6_22 lN136 (eM136 _) rfl dX6_readEntry_76 ?_
                refine G_iload_n (pc := 79) h.1 dX6_readEntry_79 rfl 1 rfl ?_
                refine G_aload_n (pc := 80) h.1 dX6_readEntry_80 rfl 0 rfl ?_
                refine G_callV (pc := 81) (As := []) (rest := [.int p1, .ref (y.2.1 140)]) h.1 h.2.2.1 lk_X6_51 lN136 (eM136 _) rfl rfl (c_X6_takeStart x.1.2.1 y hy M15) rfl rfl (Nat.le_of_ble_eq_true rfl) ⟨rfl, rfl, Nat.le_of_ble_eq_true rfl, Nat.le_of_ble_eq_true rfl⟩ dX6_readEntry_81 (fun r18 M17 => ?_)
                refine G_iast (pc := 84) h.1 lN140 (fun m => eM140 m) dX6_readEntry_84 (fun M19 => ?_)
                refine G_iconst (pc := 85) (v := (1)) h.1 dX6_readEntry_85 (by decide) ?_
                exact G_ret (pc := 86) h rfl dX6_readEntry_86
              · refine G_iconst (pc := 73) (v := (0)) h.1 dX6_readEntry_73 (by decide) ?_
                exact G_ret (pc := 74) h rfl dX6_readEntry_74
          · refine G_iconst (pc := 45) (v := (0)) h.1 dX6_readEntry_45 (by decide) ?_
            exact G_ret (pc := 46) h rfl dX6_readEntry_46
      · refine G_iconst (pc := 17) (v := (0)) h.1 dX6_readEntry_17 (by decide) ?_
        exact G_ret (pc := 18) h rfl dX6_readEntry_18
theorem dX6_read_0 : decode cX6_read 0 = .ok (.aload_n 0, 1) := by decide +kernel
theorem dX6_read_1 : decode cX6_read 1 = .ok (.iconst 0, 1) := by decide +kernel
theorem dX6_read_2 : decode cX6_read 2 = .ok (.putfield 29, 3) := by decide +kernel
theorem dX6_read_5 : decode cX6_read 5 = .ok (.aload_n 0, 1) := by decide +kernel
theorem dX6_read_6 : decode cX6_read 6 = .ok (.iconst 0, 1) := by decide +kernel
theorem dX6_read_7 : decode cX6_read 7 = .ok (.putfield 32, 3) := by decide +kernel
theorem dX6_read_10 : decode cX6_read 10 = .ok (.iconst 0, 1) := by decide +kernel
theorem dX6_read_11 : decode cX6_read 11 = .ok (.istore_n 1, 1) := by decide +kernel
theorem dX6_read_12 : decode cX6_read 12 = .ok (.iload_n 1, 1) := by decide +kernel
theorem dX6_read_13 : decode cX6_read 13 = .ok (.bipush 10, 2) := by decide +kernel
theorem dX6_read_15 : decode cX6_read 15 = .ok (.if_icmp .ge 59, 3) := by decide +kernel
theorem dX6_read_18 : decode cX6_read 18 = .ok (.aload_n 0, 1) := by decide +kernel
theorem dX6_read_19 : decode cX6_read 19 = .ok (.iload_n 1, 1) := by decide +kernel
theorem dX6_read_20 : decode cX6_read 20 = .ok (.invokevirtual 35, 3) := by decide +kernel
theorem dX6_read_23 : decode cX6_read 23 = .ok (.ifCond .ne 8, 3) := by decide +kernel
theorem dX6_read_26 : decode cX6_read 26 = .ok (.aload_n 0, 1) := by decide +kernel
theorem dX6_read_27 : decode cX6_read 27 = .ok (.getfield 32, 3) := by decide +kernel
theorem dX6_read_30 : decode cX6_read 30 = .ok (.ireturn, 1) := by decide +kernel
theorem dX6_read_31 : decode cX6_read 31 = .ok (.aload_n 0, 1) := by decide +kernel
theorem dX6_read_32 : decode cX6_read 32 = .ok (.dup, 1) := by decide +kernel
theorem dX6_read_33 : decode cX6_read 33 = .ok (.getfield 29, 3) := by decide +kernel
theorem dX6_read_36 : decode cX6_read 36 = .ok (.iconst 1, 1) := by decide +kernel
theorem dX6_read_37 : decode cX6_read 37 = .ok (.iadd, 1) := by decide +kernel
theorem dX6_read_38 : decode cX6_read 38 = .ok (.putfield 29, 3) := by decide +kernel
theorem dX6_read_41 : decode cX6_read 41 = .ok (.aload_n 0, 1) := by decide +kernel
theorem dX6_read_42 : decode cX6_read 42 = .ok (.getfield 32, 3) := by decide +kernel
theorem dX6_read_45 : decode cX6_read 45 = .ok (.aload_n 0, 1) := by decide +kernel
theorem dX6_read_46 : decode cX6_read 46 = .ok (.getfield 25, 3) := by decide +kernel
theorem dX6_read_49 : decode cX6_read 49 = .ok (.if_icmp .ne 5, 3) := by decide +kernel
theorem dX6_read_52 : decode cX6_read 52 = .ok (.iconst (-1), 1) := by decide +kernel
theorem dX6_read_53 : decode cX6_read 53 = .ok (.ireturn, 1) := by decide +kernel
theorem dX6_read_54 : decode cX6_read 54 = .ok (.aload_n 0, 1) := by decide +kernel
theorem dX6_read_55 : decode cX6_read 55 = .ok (.bipush 44, 2) := by decide +kernel
theorem dX6_read_57 : decode cX6_read 57 = .ok (.invokevirtual 39, 3) := by decide +kernel
theorem dX6_read_60 : decode cX6_read 60 = .ok (.ifCond .ne 8, 3) := by decide +kernel
theorem dX6_read_63 : decode cX6_read 63 = .ok (.aload_n 0, 1) := by decide +kernel
theorem dX6_read_64 : decode cX6_read 64 = .ok (.getfield 32, 3) := by decide +kernel
theorem dX6_read_67 : decode cX6_read 67 = .ok (.ireturn, 1) := by decide +kernel
theorem dX6_read_68 : decode cX6_read 68 = .ok (.iinc 1 1, 3) := by decide +kernel
theorem dX6_read_71 : decode cX6_read 71 = .ok (.goto (-59), 3) := by decide +kernel
theorem dX6_read_74 : decode cX6_read 74 = .ok (.aload_n 0, 1) := by decide +kernel
theorem dX6_read_75 : decode cX6_read 75 = .ok (.getfield 32, 3) := by decide +kernel
theorem dX6_read_78 : decode cX6_read 78 = .ok (.ireturn, 1) := by decide +kernel
abbrev rX6_read : Room := { frames := 4, cells := 0, slots := 0, locals := 84 }
set_option maxRecDepth 20000 in
theorem gd_X6_read_L12_body {x : Cx} {y : Cy} (hy : Inj y) (h : OkM x y cX6_read RX6 2 (some .int) rX6_read) (kx1 : Mem → Ans) (hx1 : ∀ M0 : Mem, G x y 74 [(0, .ref (y.2.1 136))] [] M0 (kx1 M0)) (kb : Int32 → Mem → Ans) (hb : ∀ (b1 : Int32), ∀ M0 : Mem, G x y 12 [(0, .ref (y.2.1 136)), (1, .int b1)] [] M0 (kb b1 M0)) (a1 : Int32) (M : Mem) : G x y 12 [(0, .ref (y.2.1 136)), (1, .int a1)] [] M (d_X6_read_L12_body kx1 kb a1 M) := by
  unfold d_X6_read_L12_body
  refine G_iload_n (pc := 12) h.1 dX6_read_12 rfl 1 rfl ?_
  refine G_bipush (pc := 13) (v := (10)) h.1 dX6_read_13 (by decide) ?_
  refine G_icmp_ge (pc := 15) (tgt := 74) h.1 dX6_read_15 (by decide) ?_ ?_
  · exact G_sub [0] rfl (hx1 M)
  · refine G_aload_n (pc := 18) h.1 dX6_read_18 rfl 0 rfl ?_
    refine G_iload_n (pc := 19) h.1 dX6_read_19 rfl 1 rfl ?_
    refine G_callV (pc := 20) (As := [.int a1]) (rest := []) h.1 h.2.2.1 lk_X6_35 lN136 (eM136 _) rfl rfl (c_X6_readEntry x.1.2.1 y hy a1 M) rfl rfl (Nat.le_of_ble_eq_true rfl) ⟨rfl, rfl, Nat.le_of_ble_eq_true rfl, Nat.le_of_ble_eq_true rfl⟩ dX6_read_20 (fun r4 M3 => ?_)
    refine G_if_ne (pc := 23) (tgt := 31) h.1 dX6_read_23 (by decide) ?_ ?_
    · refine G_aload_n (pc := 31) h.1 dX6_read_31 rfl 0 rfl ?_
      refine G_dup (pc := 32) h.1 dX6_read_32 rfl ?_
      refine G_get (pc := 33) (v := .int (M3 136 2)) h.1 fl_X6_29 lN136 (eM136 _) rfl dX6_read_33 ?_
      refine G_iconst (pc := 36) (v := (1)) h.1 dX6_read_36 (by decide) ?_
      refine G_iadd (pc := 37) h.1 dX6_read_37 ?_
      refine G_put (pc := 38) h.1 fp_X6_29 lN136 (fun m => eM136 m) (fun _ => rfl) (fun _ => Nat.le_of_ble_eq_true rfl) rfl rfl dX6_read_38 (fun M5 => ?_)
      refine G_aload_n (pc := 41) h.1 dX6_read_41 rfl 0 rfl ?_
      refine G_get (pc := 42) (v := .int (M5 136 6)) h.1 fl_X6_32 lN136 (eM136 _) rfl dX6_read_42 ?_
      refine G_aload_n (pc := 45) h.1 dX6_read_45 rfl 0 rfl ?_
      refine G_get (pc := 46) (v := .int (M5 136 1)) h.1 fl_X6_25 lN136 (eM136 _) rfl dX6_read_46 ?_
      refine G_icmp_ne (pc := 49) (tgt := 54) h.1 dX6_read_49 (by decide) ?_ ?_
      · refine G_aload_n (pc := 54) h.1 dX6_read_54 rfl 0 rfl ?_
        refine G_bipush (pc := 55) (v := (44)) h.1 dX6_read_55 (by decide) ?_
        refine G_callV (pc := 57) (As := [.int (44 : Int32)]) (rest := []) h.1 h.2.2.1 lk_X6_39 lN136 (eM136 _) rfl rfl (c_X6_skip x.1.2.1 y hy (44 : Int32) M5) rfl rfl (Nat.le_of_ble_eq_true rfl) ⟨rfl, rfl, Nat.le_of_ble_eq_true rfl, Nat.le_of_ble_eq_true rfl⟩ dX6_read_57 (fun r7 M6 => ?_)
        refine G_if_ne (pc := 60) (tgt := 68) h.1 dX6_read_60 (by decide) ?_ ?_
        · refine G_iinc (pc := 68) (v := a1 + (1)) h.1 h.2.1 (fun v8 => [(1, .int v8), (0, .ref (y.2.1 136))]) dX6_read_68 (by decide) 1 rfl rfl (fun _ => rfl) (fun v8 => ?_)
          refine G_goto (pc := 71) (tgt := 12) h.1 dX6_read_71 (by decide) ?_
          exact G_sub [1, 0] rfl (hb v8 M6)
        · refine G_aload_n (pc := 63) h.1 dX6_read_63 rfl 0 rfl ?_
          refine G_get (pc := 64) (v := .int (M6 136 6)) h.1 fl_X6_32 lN136 (eM136 _) rfl dX6_read_64 ?_
          exact G_ret (pc := 67) h rfl dX6_read_67
      · refine G_iconst (pc := 52) (v := (-1)) h.1 dX6_read_52 (by decide) ?_
        exact G_ret (pc := 53) h rfl dX6_read_53
    · refine G_aload_n (pc := 26) h.1 dX6_read_26 rfl 0 rfl ?_
      refine G_get (pc := 27) (v := .int (M3 136 6)) h.1 fl_X6_32 lN136 (eM136 _) rfl dX6_read_27 ?_
      exact G_ret (pc := 30) h rfl dX6_read_30
set_option maxRecDepth 20000 in
theorem gd_X6_read_L12 {x : Cx} {y : Cy} (hy : Inj y) (h : OkM x y cX6_read RX6 2 (some .int) rX6_read) (kx1 : Mem → Ans) (hx1 : ∀ M0 : Mem, G x y 74 [(0, .ref (y.2.1 136))] [] M0 (kx1 M0)) : ∀ (n : Nat) (a1 : Int32) (M : Mem), G x y 12 [(0, .ref (y.2.1 136)), (1, .int a1)] [] M (d_X6_read_L12 kx1 n a1 M) := by
  intro n
  induction n with
  | zero => intro a1 M; exact G_none
  | succ n ih => intro a1 M; exact gd_X6_read_L12_body hy h kx1 hx1 _ ih a1 M
set_option maxRecDepth 20000 in
theorem c_X6_read (l : Launch) (y : Cy) (hy : Inj y) (M : Mem) : CT l y yX6_read cX6_read 2 (some .int) rX6_read [.ref (y.2.1 136)] M (d_X6_read M) := by
  refine CT_of (by decide) hy (Nat.le_of_ble_eq_true rfl) (fun x hxl h => ?_)
  show G x y 0 [(0, .ref (y.2.1 136))] [] M _
  unfold d_X6_read
  refine G_aload_n (pc := 0) h.1 dX6_read_0 rfl 0 rfl ?_
  refine G_iconst (pc := 1) (v := (0)) h.1 dX6_read_1 (by decide) ?_
  refine G_put (pc := 2) h.1 fp_X6_29 lN136 (fun m => eM136 m) (fun _ => rfl) (fun _ => Nat.le_of_ble_eq_true rfl) rfl rfl dX6_read_2 (fun M1 => ?_)
  refine G_aload_n (pc := 5) h.1 dX6_read_5 rfl 0 rfl ?_
  refine G_iconst (pc := 6) (v := (0)) h.1 dX6_read_6 (by decide) ?_
  refine G_put (pc := 7) h.1 fp_X6_32 lN136 (fun m => eM136 m) (fun _ => rfl) (fun _ => Nat.le_of_ble_eq_true rfl) rfl rfl dX6_read_7 (fun M2 => ?_)
  refine G_iconst (pc := 10) (v := (0)) h.1 dX6_read_10 (by decide) ?_
  refine G_istore_n (pc := 11) h.1 h.2.1 [(1, .int (0 : Int32)), (0, .ref (y.2.1 136))] dX6_read_11 rfl (by decide) rfl ?_
  refine G_sub [1, 0] rfl (gd_X6_read_L12 hy h _ (fun M9 => ?_) fuelN (0 : Int32) M2)
  refine G_aload_n (pc := 74) h.1 dX6_read_74 rfl 0 rfl ?_
  refine G_get (pc := 75) (v := .int (M9 136 6)) h.1 fl_X6_32 lN136 (eM136 _) rfl dX6_read_75 ?_
  exact G_ret (pc := 78) h rfl dX6_read_78
