theorem dX9_setHeat_0 : decode cX9_setHeat 0 = .ok (.iload_n 1, 1) := by decide +kernel
theorem dX9_setHeat_1 : decode cX9_setHeat 1 = .ok (.iconst 0, 1) := by decide +kernel
theorem dX9_setHeat_2 : decode cX9_setHeat 2 = .ok (.sipush 300, 3) := by decide +kernel
theorem dX9_setHeat_5 : decode cX9_setHeat 5 = .ok (.invokestatic 52, 3) := by decide +kernel
theorem dX9_setHeat_8 : decode cX9_setHeat 8 = .ok (.ifCond .ne 6, 3) := by decide +kernel
theorem dX9_setHeat_11 : decode cX9_setHeat 11 = .ok (.bipush (-2), 2) := by decide +kernel
theorem dX9_setHeat_13 : decode cX9_setHeat 13 = .ok (.ireturn, 1) := by decide +kernel
theorem dX9_setHeat_14 : decode cX9_setHeat 14 = .ok (.aload_n 0, 1) := by decide +kernel
theorem dX9_setHeat_15 : decode cX9_setHeat 15 = .ok (.getfield 7, 3) := by decide +kernel
theorem dX9_setHeat_18 : decode cX9_setHeat 18 = .ok (.iconst 3, 1) := by decide +kernel
theorem dX9_setHeat_19 : decode cX9_setHeat 19 = .ok (.iaload, 1) := by decide +kernel
theorem dX9_setHeat_20 : decode cX9_setHeat 20 = .ok (.iload_n 1, 1) := by decide +kernel
theorem dX9_setHeat_21 : decode cX9_setHeat 21 = .ok (.if_icmp .ne 6, 3) := by decide +kernel
theorem dX9_setHeat_24 : decode cX9_setHeat 24 = .ok (.bipush (-5), 2) := by decide +kernel
theorem dX9_setHeat_26 : decode cX9_setHeat 26 = .ok (.ireturn, 1) := by decide +kernel
theorem dX9_setHeat_27 : decode cX9_setHeat 27 = .ok (.aload_n 0, 1) := by decide +kernel
theorem dX9_setHeat_28 : decode cX9_setHeat 28 = .ok (.invokevirtual 107, 3) := by decide +kernel
theorem dX9_setHeat_31 : decode cX9_setHeat 31 = .ok (.aload_n 0, 1) := by decide +kernel
theorem dX9_setHeat_32 : decode cX9_setHeat 32 = .ok (.getfield 7, 3) := by decide +kernel
theorem dX9_setHeat_35 : decode cX9_setHeat 35 = .ok (.iconst 3, 1) := by decide +kernel
theorem dX9_setHeat_36 : decode cX9_setHeat 36 = .ok (.iload_n 1, 1) := by decide +kernel
theorem dX9_setHeat_37 : decode cX9_setHeat 37 = .ok (.iastore, 1) := by decide +kernel
theorem dX9_setHeat_38 : decode cX9_setHeat 38 = .ok (.aload_n 0, 1) := by decide +kernel
theorem dX9_setHeat_39 : decode cX9_setHeat 39 = .ok (.invokevirtual 110, 3) := by decide +kernel
theorem dX9_setHeat_42 : decode cX9_setHeat 42 = .ok (.ireturn, 1) := by decide +kernel
abbrev rX9_setHeat : Room := { frames := 5, cells := 0, slots := 0, locals := 113 }
set_option maxRecDepth 20000 in
theorem c_X9_setHeat (l : Launch) (y : Cy) (hy : Inj y) (p1 : Int32) (M : Mem) : CT l y yX9_setHeat cX9_setHeat 2 (some .int) rX9_setHeat [.ref (y.2.1 143), .int p1] M (d_X9_setHeat p1 M) := by
  refine CT_of (by decide) hy (Nat.le_of_ble_eq_true rfl) (fun x hxl h => ?_)
  show G x y 0 [(0, .ref (y.2.1 143)), (1, .int p1)] [] M _
  unfold d_X9_setHeat
  refine G_iload_n (pc := 0) h.1 dX9_setHeat_0 rfl 1 rfl ?_
  refine G_iconst (pc := 1) (v := (0)) h.1 dX9_setHeat_1 (by decide) ?_
  refine G_sipush (pc := 2) (v := (300)) h.1 dX9_setHeat_2 (by decide) ?_
  refine G_callS (pc := 5) (As := [.int p1, .int (0 : Int32), .int (300 : Int32)]) (rest := []) h.1 h.2.2.1 lk_X9_52 (c_X9_in x.1.2.1 y hy p1 (0 : Int32) (300 : Int32) M) rfl rfl (Nat.le_of_ble_eq_true rfl) ⟨rfl, rfl, Nat.le_of_ble_eq_true rfl, Nat.le_of_ble_eq_true rfl⟩ dX9_setHeat_5 (fun r2 M1 => ?_)
  refine G_if_ne (pc := 8) (tgt := 14) h.1 dX9_setHeat_8 (by decide) ?_ ?_
  · refine G_aload_n (pc := 14) h.1 dX9_setHeat_14 rfl 0 rfl ?_
    refine G_get (pc := 15) (v := .ref (y.2.1 144)) h.1 fl_X9_7 lN143 (eM143 _) rfl dX9_setHeat_15 ?_
    refine G_iconst (pc := 18) (v := (3)) h.1 dX9_setHeat_18 (by decide) ?_
    refine G_iald (pc := 19) h.1 lN144 (eM144 _) dX9_setHeat_19 ?_
    refine G_iload_n (pc := 20) h.1 dX9_setHeat_20 rfl 1 rfl ?_
    refine G_icmp_ne (pc := 21) (tgt := 27) h.1 dX9_setHeat_21 (by decide) ?_ ?_
    · refine G_aload_n (pc := 27) h.1 dX9_setHeat_27 rfl 0 rfl ?_
      refine G_callVv (pc := 28) (As := []) (rest := []) h.1 h.2.2.1 lk_X9_107 lN143 (eM143 _) rfl rfl (c_X9_record x.1.2.1 y hy M1) rfl rfl (Nat.le_of_ble_eq_true rfl) ⟨rfl, rfl, Nat.le_of_ble_eq_true rfl, Nat.le_of_ble_eq_true rfl⟩ dX9_setHeat_28 (fun r4 M3 => ?_)
      refine G_aload_n (pc := 31) h.1 dX9_setHeat_31 rfl 0 rfl ?_
      refine G_get (pc := 32) (v := .ref (y.2.1 144)) h.1 fl_X9_7 lN143 (eM143 _) rfl dX9_setHeat_32 ?_
      refine G_iconst (pc := 35) (v := (3)) h.1 dX9_setHeat_35 (by decide) ?_
      refine G_iload_n (pc := 36) h.1 dX9_setHeat_36 rfl 1 rfl ?_
      refine G_iast (pc := 37) h.1 lN144 (fun m => eM144 m) dX9_setHeat_37 (fun M5 => ?_)
      refine G_aload_n (pc := 38) h.1 dX9_setHeat_38 rfl 0 rfl ?_
      refine G_callV (pc := 39) (As := []) (rest := []) h.1 h.2.2.1 lk_X9_110 lN143 (eM143 _) rfl rfl (c_X9_doomed x.1.2.1 y hy M5) rfl rfl (Nat.le_of_ble_eq_true rfl) ⟨rfl, rfl, Nat.le_of_ble_eq_true rfl, Nat.le_of_ble_eq_true rfl⟩ dX9_setHeat_39 (fun r7 M6 => ?_)
      exact G_ret (pc := 42) h rfl dX9_setHeat_42
    · refine G_bipush (pc := 24) (v := (-5)) h.1 dX9_setHeat_24 (by decide) ?_
      exact G_ret (pc := 26) h rfl dX9_setHeat_26
  · refine G_bipush (pc := 11) (v := (-2)) h.1 dX9_setHeat_11 (by decide) ?_
    exact G_ret (pc := 13) h rfl dX9_setHeat_13
theorem dX9_setMost_0 : decode cX9_setMost 0 = .ok (.iload_n 1, 1) := by decide +kernel
theorem dX9_setMost_1 : decode cX9_setMost 1 = .ok (.bipush 100, 2) := by decide +kernel
theorem dX9_setMost_3 : decode cX9_setMost 3 = .ok (.sipush 3000, 3) := by decide +kernel
theorem dX9_setMost_6 : decode cX9_setMost 6 = .ok (.invokestatic 52, 3) := by decide +kernel
theorem dX9_setMost_9 : decode cX9_setMost 9 = .ok (.ifCond .ne 6, 3) := by decide +kernel
theorem dX9_setMost_12 : decode cX9_setMost 12 = .ok (.bipush (-2), 2) := by decide +kernel
theorem dX9_setMost_14 : decode cX9_setMost 14 = .ok (.ireturn, 1) := by decide +kernel
theorem dX9_setMost_15 : decode cX9_setMost 15 = .ok (.aload_n 0, 1) := by decide +kernel
theorem dX9_setMost_16 : decode cX9_setMost 16 = .ok (.getfield 7, 3) := by decide +kernel
theorem dX9_setMost_19 : decode cX9_setMost 19 = .ok (.iconst 2, 1) := by decide +kernel
theorem dX9_setMost_20 : decode cX9_setMost 20 = .ok (.iaload, 1) := by decide +kernel
theorem dX9_setMost_21 : decode cX9_setMost 21 = .ok (.iload_n 1, 1) := by decide +kernel
theorem dX9_setMost_22 : decode cX9_setMost 22 = .ok (.if_icmp .ne 6, 3) := by decide +kernel
theorem dX9_setMost_25 : decode cX9_setMost 25 = .ok (.bipush (-5), 2) := by decide +kernel
theorem dX9_setMost_27 : decode cX9_setMost 27 = .ok (.ireturn, 1) := by decide +kernel
theorem dX9_setMost_28 : decode cX9_setMost 28 = .ok (.aload_n 0, 1) := by decide +kernel
theorem dX9_setMost_29 : decode cX9_setMost 29 = .ok (.invokevirtual 107, 3) := by decide +kernel
theorem dX9_setMost_32 : decode cX9_setMost 32 = .ok (.aload_n 0, 1) := by decide +kernel
theorem dX9_setMost_33 : decode cX9_setMost 33 = .ok (.getfield 7, 3) := by decide +kernel
theorem dX9_setMost_36 : decode cX9_setMost 36 = .ok (.iconst 2, 1) := by decide +kernel
theorem dX9_setMost_37 : decode cX9_setMost 37 = .ok (.iload_n 1, 1) := by decide +kernel
theorem dX9_setMost_38 : decode cX9_setMost 38 = .ok (.iastore, 1) := by decide +kernel
theorem dX9_setMost_39 : decode cX9_setMost 39 = .ok (.aload_n 0, 1) := by decide +kernel
theorem dX9_setMost_40 : decode cX9_setMost 40 = .ok (.getfield 7, 3) := by decide +kernel
theorem dX9_setMost_43 : decode cX9_setMost 43 = .ok (.iconst 1, 1) := by decide +kernel
theorem dX9_setMost_44 : decode cX9_setMost 44 = .ok (.aload_n 0, 1) := by decide +kernel
theorem dX9_setMost_45 : decode cX9_setMost 45 = .ok (.getfield 7, 3) := by decide +kernel
theorem dX9_setMost_48 : decode cX9_setMost 48 = .ok (.iconst 1, 1) := by decide +kernel
theorem dX9_setMost_49 : decode cX9_setMost 49 = .ok (.iaload, 1) := by decide +kernel
theorem dX9_setMost_50 : decode cX9_setMost 50 = .ok (.iload_n 1, 1) := by decide +kernel
theorem dX9_setMost_51 : decode cX9_setMost 51 = .ok (.if_icmp .le 7, 3) := by decide +kernel
theorem dX9_setMost_54 : decode cX9_setMost 54 = .ok (.iload_n 1, 1) := by decide +kernel
theorem dX9_setMost_55 : decode cX9_setMost 55 = .ok (.goto 9, 3) := by decide +kernel
theorem dX9_setMost_58 : decode cX9_setMost 58 = .ok (.aload_n 0, 1) := by decide +kernel
theorem dX9_setMost_59 : decode cX9_setMost 59 = .ok (.getfield 7, 3) := by decide +kernel
theorem dX9_setMost_62 : decode cX9_setMost 62 = .ok (.iconst 1, 1) := by decide +kernel
theorem dX9_setMost_63 : decode cX9_setMost 63 = .ok (.iaload, 1) := by decide +kernel
theorem dX9_setMost_64 : decode cX9_setMost 64 = .ok (.iastore, 1) := by decide +kernel
theorem dX9_setMost_65 : decode cX9_setMost 65 = .ok (.aload_n 0, 1) := by decide +kernel
theorem dX9_setMost_66 : decode cX9_setMost 66 = .ok (.getfield 7, 3) := by decide +kernel
theorem dX9_setMost_69 : decode cX9_setMost 69 = .ok (.iconst 1, 1) := by decide +kernel
theorem dX9_setMost_70 : decode cX9_setMost 70 = .ok (.iaload, 1) := by decide +kernel
theorem dX9_setMost_71 : decode cX9_setMost 71 = .ok (.ireturn, 1) := by decide +kernel
abbrev rX9_setMost : Room := { frames := 1, cells := 0, slots := 0, locals := 22 }
set_option maxRecDepth 20000 in
theorem gd_X9_setMost_B64 {x : Cx} {y : Cy} (hy : Inj y) (h : OkM x y cX9_setMost RX9 2 (some .int) rX9_setMost) (s0 : Int32) (s1 : Int32) (M : Mem) : G x y 64 [(0, .ref (y.2.1 143))] [.int s0, .int s1, .ref (y.2.1 144)] M (d_X9_setMost_B64 s0 s1 M) := by
  unfold d_X9_setMost_B64
  refine G_iast (pc := 64) h.1 lN144 (fun m => eM144 m) dX9_setMost_64 (fun M6 => ?_)
  refine G_aload_n (pc := 65) h.1 dX9_setMost_65 rfl 0 rfl ?_
  refine G_get (pc := 66) (v := .ref (y.2.1 144)) h.1 fl_X9_7 lN143 (eM143 _) rfl dX9_setMost_66 ?_
  refine G_iconst (pc := 69) (v := (1)) h.1 dX9_setMost_69 (by decide) ?_
  refine G_iald (pc := 70) h.1 lN144 (eM144 _) dX9_setMost_70 ?_
  exact G_ret (pc := 71) h rfl dX9_setMost_71
set_option maxRecDepth 20000 in
theorem c_X9_setMost (l : Launch) (y : Cy) (hy : Inj y) (p1 : Int32) (M : Mem) : CT l y yX9_setMost cX9_setMost 2 (some .int) rX9_setMost [.ref (y.2.1 143), .int p1] M (d_X9_setMost p1 M) := by
  refine CT_of (by decide) hy (Nat.le_of_ble_eq_true rfl) (fun x hxl h => ?_)
  show G x y 0 [(0, .ref (y.2.1 143)), (1, .int p1)] [] M _
  unfold d_X9_setMost
  refine G_iload_n (pc := 0) h.1 dX9_setMost_0 rfl 1 rfl ?_
  refine G_bipush (pc := 1) (v := (100)) h.1 dX9_setMost_1 (by decide) ?_
  refine G_sipush (pc := 3) (v := (3000)) h.1 dX9_setMost_3 (by decide) ?_
  refine G_callS (pc := 6) (As := [.int p1, .int (100 : Int32), .int (3000 : Int32)]) (rest := []) h.1 h.2.2.1 lk_X9_52 (c_X9_in x.1.2.1 y hy p1 (100 : Int32) (3000 : Int32) M) rfl rfl (Nat.le_of_ble_eq_true rfl) ⟨rfl, rfl, Nat.le_of_ble_eq_true rfl, Nat.le_of_ble_eq_true rfl⟩ dX9_setMost_6 (fun r2 M1 => ?_)
  refine G_if_ne (pc := 9) (tgt := 15) h.1 dX9_setMost_9 (by decide) ?_ ?_
  · refine G_aload_n (pc := 15) h.1 dX9_setMost_15 rfl 0 rfl ?_
    refine G_get (pc := 16) (v := .ref (y.2.1 144)) h.1 fl_X9_7 lN143 (eM143 _) rfl dX9_setMost_16 ?_
    refine G_iconst (pc := 19) (v := (2)) h.1 dX9_setMost_19 (by decide) ?_
    refine G_iald (pc := 20) h.1 lN144 (eM144 _) dX9_setMost_20 ?_
    refine G_iload_n (pc := 21) h.1 dX9_setMost_21 rfl 1 rfl ?_
    refine G_icmp_ne (pc := 22) (tgt := 28) h.1 dX9_setMost_22 (by decide) ?_ ?_
    · refine G_aload_n (pc := 28) h.1 dX9_setMost_28 rfl 0 rfl ?_
      refine G_callVv (pc := 29) (As := []) (rest := []) h.1 h.2.2.1 lk_X9_107 lN143 (eM143 _) rfl rfl (c_X9_record x.1.2.1 y hy M1) rfl rfl (Nat.le_of_ble_eq_true rfl) ⟨rfl, rfl, Nat.le_of_ble_eq_true rfl, Nat.le_of_ble_eq_true rfl⟩ dX9_setMost_29 (fun r4 M3 => ?_)
      refine G_aload_n (pc := 32) h.1 dX9_setMost_32 rfl 0 rfl ?_
      refine G_get (pc := 33) (v := .ref (y.2.1 144)) h.1 fl_X9_7 lN143 (eM143 _) rfl dX9_setMost_33 ?_
      refine G_iconst (pc := 36) (v := (2)) h.1 dX9_setMost_36 (by decide) ?_
      refine G_iload_n (pc := 37) h.1 dX9_setMost_37 rfl 1 rfl ?_
      refine G_iast (pc := 38) h.1 lN144 (fun m => eM144 m) dX9_setMost_38 (fun M5 => ?_)
      refine G_aload_n (pc := 39) h.1 dX9_setMost_39 rfl 0 rfl ?_
      refine G_get (pc := 40) (v := .ref (y.2.1 144)) h.1 fl_X9_7 lN143 (eM143 _) rfl dX9_setMost_40 ?_
      refine G_iconst (pc := 43) (v := (1)) h.1 dX9_setMost_43 (by decide) ?_
      refine G_aload_n (pc := 44) h.1 dX9_setMost_44 rfl 0 rfl ?_
      refine G_get (pc := 45) (v := .ref (y.2.1 144)) h.1 fl_X9_7 lN143 (eM143 _) rfl dX9_setMost_45 ?_
      refine G_iconst (pc := 48) (v := (1)) h.1 dX9_setMost_48 (by decide) ?_
      refine G_iald (pc := 49) h.1 lN144 (eM144 _) dX9_setMost_49 ?_
      refine G_iload_n (pc := 50) h.1 dX9_setMost_50 rfl 1 rfl ?_
      refine G_icmp_le (pc := 51) (tgt := 58) h.1 dX9_setMost_51 (by decide) ?_ ?_
      · refine G_aload_n (pc := 58) h.1 dX9_setMost_58 rfl 0 rfl ?_
        refine G_get (pc := 59) (v := .ref (y.2.1 144)) h.1 fl_X9_7 lN143 (eM143 _) rfl dX9_setMost_59 ?_
        refine G_iconst (pc := 62) (v := (1)) h.1 dX9_setMost_62 (by decide) ?_
        refine G_iald (pc := 63) h.1 lN144 (eM144 _) dX9_setMost_63 ?_
        exact G_sub [0] rfl (gd_X9_setMost_B64 hy h (M5 144 ((1 : Int32)).toNatClampNeg) (1 : Int32) M5)
      · refine G_iload_n (pc := 54) h.1 dX9_setMost_54 rfl 1 rfl ?_
        refine G_goto (pc := 55) (tgt := 64) h.1 dX9_setMost_55 (by decide) ?_
        exact G_sub [0] rfl (gd_X9_setMost_B64 hy h p1 (1 : Int32) M5)
    · refine G_bipush (pc := 25) (v := (-5)) h.1 dX9_setMost_25 (by decide) ?_
      exact G_ret (pc := 27) h rfl dX9_setMost_27
  · refine G_bipush (pc := 12) (v := (-2)) h.1 dX9_setMost_12 (by decide) ?_
    exact G_ret (pc := 14) h rfl dX9_setMost_14
theorem dX9_fall_0 : decode cX9_fall 0 = .ok (.iload_n 1, 1) := by decide +kernel
theorem dX9_fall_1 : decode cX9_fall 1 = .ok (.iconst 1, 1) := by decide +kernel
theorem dX9_fall_2 : decode cX9_fall 2 = .ok (.sipush 3000, 3) := by decide +kernel
theorem dX9_fall_5 : decode cX9_fall 5 = .ok (.invokestatic 52, 3) := by decide +kernel
theorem dX9_fall_8 : decode cX9_fall 8 = .ok (.ifCond .ne 6, 3) := by decide +kernel
theorem dX9_fall_11 : decode cX9_fall 11 = .ok (.bipush (-2), 2) := by decide +kernel
theorem dX9_fall_13 : decode cX9_fall 13 = .ok (.ireturn, 1) := by decide +kernel
theorem dX9_fall_14 : decode cX9_fall 14 = .ok (.aload_n 0, 1) := by decide +kernel
theorem dX9_fall_15 : decode cX9_fall 15 = .ok (.getfield 7, 3) := by decide +kernel
theorem dX9_fall_18 : decode cX9_fall 18 = .ok (.iconst 1, 1) := by decide +kernel
theorem dX9_fall_19 : decode cX9_fall 19 = .ok (.iaload, 1) := by decide +kernel
theorem dX9_fall_20 : decode cX9_fall 20 = .ok (.ifCond .ne 6, 3) := by decide +kernel
theorem dX9_fall_23 : decode cX9_fall 23 = .ok (.bipush (-5), 2) := by decide +kernel
theorem dX9_fall_25 : decode cX9_fall 25 = .ok (.ireturn, 1) := by decide +kernel
theorem dX9_fall_26 : decode cX9_fall 26 = .ok (.aload_n 0, 1) := by decide +kernel
theorem dX9_fall_27 : decode cX9_fall 27 = .ok (.invokevirtual 107, 3) := by decide +kernel
theorem dX9_fall_30 : decode cX9_fall 30 = .ok (.aload_n 0, 1) := by decide +kernel
theorem dX9_fall_31 : decode cX9_fall 31 = .ok (.getfield 7, 3) := by decide +kernel
theorem dX9_fall_34 : decode cX9_fall 34 = .ok (.iconst 1, 1) := by decide +kernel
theorem dX9_fall_35 : decode cX9_fall 35 = .ok (.iaload, 1) := by decide +kernel
theorem dX9_fall_36 : decode cX9_fall 36 = .ok (.iload_n 1, 1) := by decide +kernel
theorem dX9_fall_37 : decode cX9_fall 37 = .ok (.isub, 1) := by decide +kernel
theorem dX9_fall_38 : decode cX9_fall 38 = .ok (.istore_n 2, 1) := by decide +kernel
theorem dX9_fall_39 : decode cX9_fall 39 = .ok (.aload_n 0, 1) := by decide +kernel
theorem dX9_fall_40 : decode cX9_fall 40 = .ok (.getfield 7, 3) := by decide +kernel
theorem dX9_fall_43 : decode cX9_fall 43 = .ok (.iconst 1, 1) := by decide +kernel
theorem dX9_fall_44 : decode cX9_fall 44 = .ok (.iload_n 2, 1) := by decide +kernel
theorem dX9_fall_45 : decode cX9_fall 45 = .ok (.ifCond .ge 7, 3) := by decide +kernel
theorem dX9_fall_48 : decode cX9_fall 48 = .ok (.iconst 0, 1) := by decide +kernel
theorem dX9_fall_49 : decode cX9_fall 49 = .ok (.goto 4, 3) := by decide +kernel
theorem dX9_fall_52 : decode cX9_fall 52 = .ok (.iload_n 2, 1) := by decide +kernel
theorem dX9_fall_53 : decode cX9_fall 53 = .ok (.iastore, 1) := by decide +kernel
theorem dX9_fall_54 : decode cX9_fall 54 = .ok (.aload_n 0, 1) := by decide +kernel
theorem dX9_fall_55 : decode cX9_fall 55 = .ok (.invokevirtual 110, 3) := by decide +kernel
theorem dX9_fall_58 : decode cX9_fall 58 = .ok (.ireturn, 1) := by decide +kernel
abbrev rX9_fall : Room := { frames := 5, cells := 0, slots := 0, locals := 113 }
set_option maxRecDepth 20000 in
theorem gd_X9_fall_B53 {x : Cx} {y : Cy} (hy : Inj y) (h : OkM x y cX9_fall RX9 3 (some .int) rX9_fall) (s0 : Int32) (s1 : Int32) (M : Mem) : G x y 53 [(0, .ref (y.2.1 143))] [.int s0, .int s1, .ref (y.2.1 144)] M (d_X9_fall_B53 s0 s1 M) := by
  unfold d_X9_fall_B53
  refine G_iast (pc := 53) h.1 lN144 (fun m => eM144 m) dX9_fall_53 (fun M6 => ?_)
  refine G_aload_n (pc := 54) h.1 dX9_fall_54 rfl 0 rfl ?_
  refine G_callV (pc := 55) (As := []) (rest := []) h.1 h.2.2.1 lk_X9_110 lN143 (eM143 _) rfl rfl (c_X9_doomed x.1.2.1 y hy M6) rfl rfl (Nat.le_of_ble_eq_true rfl) ⟨rfl, rfl, Nat.le_of_ble_eq_true rfl, Nat.le_of_ble_eq_true rfl⟩ dX9_fall_55 (fun r8 M7 => ?_)
  exact G_ret (pc := 58) h rfl dX9_fall_58
set_option maxRecDepth 20000 in
theorem c_X9_fall (l : Launch) (y : Cy) (hy : Inj y) (p1 : Int32) (M : Mem) : CT l y yX9_fall cX9_fall 3 (some .int) rX9_fall [.ref (y.2.1 143), .int p1] M (d_X9_fall p1 M) := by
  refine CT_of (by decide) hy (Nat.le_of_ble_eq_true rfl) (fun x hxl h => ?_)
  show G x y 0 [(0, .ref (y.2.1 143)), (1, .int p1)] [] M _
  unfold d_X9_fall
  refine G_iload_n (pc := 0) h.1 dX9_fall_0 rfl 1 rfl ?_
  refine G_iconst (pc := 1) (v := (1)) h.1 dX9_fall_1 (by decide) ?_
  refine G_sipush (pc := 2) (v := (3000)) h.1 dX9_fall_2 (by decide) ?_
  refine G_callS (pc := 5) (As := [.int p1, .int (1 : Int32), .int (3000 : Int32)]) (rest := []) h.1 h.2.2.1 lk_X9_52 (c_X9_in x.1.2.1 y hy p1 (1 : Int32) (3000 : Int32) M) rfl rfl (Nat.le_of_ble_eq_true rfl) ⟨rfl, rfl, Nat.le_of_ble_eq_true rfl, Nat.le_of_ble_eq_true rfl⟩ dX9_fall_5 (fun r2 M1 => ?_)
  refine G_if_ne (pc := 8) (tgt := 14) h.1 dX9_fall_8 (by decide) ?_ ?_
  · refine G_aload_n (pc := 14) h.1 dX9_fall_14 rfl 0 rfl ?_
    refine G_get (pc := 15) (v := .ref (y.2.1 144)) h.1 fl_X9_7 lN143 (eM143 _) rfl dX9_fall_15 ?_
    refine G_iconst (pc := 18) (v := (1)) h.1 dX9_fall_18 (by decide) ?_
    refine G_iald (pc := 19) h.1 lN144 (eM144 _) dX9_fall_19 ?_
    refine G_if_ne (pc := 20) (tgt := 26) h.1 dX9_fall_20 (by decide) ?_ ?_
    · refine G_aload_n (pc := 26) h.1 dX9_fall_26 rfl 0 rfl ?_
      refine G_callVv (pc := 27) (As := []) (rest := []) h.1 h.2.2.1 lk_X9_107 lN143 (eM143 _) rfl rfl (c_X9_record x.1.2.1 y hy M1) rfl rfl (Nat.le_of_ble_eq_true rfl) ⟨rfl, rfl, Nat.le_of_ble_eq_true rfl, Nat.le_of_ble_eq_true rfl⟩ dX9_fall_27 (fun r4 M3 => ?_)
      refine G_aload_n (pc := 30) h.1 dX9_fall_30 rfl 0 rfl ?_
      refine G_get (pc := 31) (v := .ref (y.2.1 144)) h.1 fl_X9_7 lN143 (eM143 _) rfl dX9_fall_31 ?_
      refine G_iconst (pc := 34) (v := (1)) h.1 dX9_fall_34 (by decide) ?_
      refine G_iald (pc := 35) h.1 lN144 (eM144 _) dX9_fall_35 ?_
      refine G_iload_n (pc := 36) h.1 dX9_fall_36 rfl 1 rfl ?_
      refine G_isub (pc := 37) h.1 dX9_fall_37 ?_
      refine G_top (fun v5 => ?_)
      refine G_istore_n (pc := 38) h.1 h.2.1 [(2, .int v5), (0, .ref (y.2.1 143)), (1, .int p1)] dX9_fall_38 rfl (by decide) rfl ?_
      refine G_aload_n (pc := 39) h.1 dX9_fall_39 rfl 1 rfl ?_
      refine G_get (pc := 40) (v := .ref (y.2.1 144)) h.1 fl_X9_7 lN143 (eM143 _) rfl dX9_fall_40 ?_
      refine G_iconst (pc := 43) (v := (1)) h.1 dX9_fall_43 (by decide) ?_
      refine G_iload_n (pc := 44) h.1 dX9_fall_44 rfl 0 rfl ?_
      refine G_if_ge (pc := 45) (tgt := 52) h.1 dX9_fall_45 (by decide) ?_ ?_
      · refine G_iload_n (pc := 52) h.1 dX9_fall_52 rfl 0 rfl ?_
        exact G_sub [1] rfl (gd_X9_fall_B53 hy h v5 (1 : Int32) M3)
      · refine G_iconst (pc := 48) (v := (0)) h.1 dX9_fall_48 (by decide) ?_
        refine G_goto (pc := 49) (tgt := 53) h.1 dX9_fall_49 (by decide) ?_
        exact G_sub [1] rfl (gd_X9_fall_B53 hy h (0 : Int32) (1 : Int32) M3)
    · refine G_bipush (pc := 23) (v := (-5)) h.1 dX9_fall_23 (by decide) ?_
      exact G_ret (pc := 25) h rfl dX9_fall_25
  · refine G_bipush (pc := 11) (v := (-2)) h.1 dX9_fall_11 (by decide) ?_
    exact G_ret (pc := 13) h rfl dX9_fall_13
theorem dX9_wrong_0 : decode cX9_wrong 0 = .ok (.iload_n 1, 1) := by decide +kernel
theorem dX9_wrong_1 : decode cX9_wrong 1 = .ok (.invokestatic 114, 3) := by decide +kernel
theorem dX9_wrong_4 : decode cX9_wrong 4 = .ok (.ifCond .ne 11, 3) := by decide +kernel
theorem dX9_wrong_7 : decode cX9_wrong 7 = .ok (.aload_n 0, 1) := by decide +kernel
theorem dX9_wrong_8 : decode cX9_wrong 8 = .ok (.iload_n 2, 1) := by decide +kernel
theorem dX9_wrong_9 : decode cX9_wrong 9 = .ok (.invokevirtual 118, 3) := by decide +kernel
theorem dX9_wrong_12 : decode cX9_wrong 12 = .ok (.ifCond .eq 5, 3) := by decide +kernel
theorem dX9_wrong_15 : decode cX9_wrong 15 = .ok (.iconst (-1), 1) := by decide +kernel
theorem dX9_wrong_16 : decode cX9_wrong 16 = .ok (.ireturn, 1) := by decide +kernel
theorem dX9_wrong_17 : decode cX9_wrong 17 = .ok (.aload_n 0, 1) := by decide +kernel
theorem dX9_wrong_18 : decode cX9_wrong 18 = .ok (.iload_n 3, 1) := by decide +kernel
theorem dX9_wrong_19 : decode cX9_wrong 19 = .ok (.invokevirtual 121, 3) := by decide +kernel
theorem dX9_wrong_22 : decode cX9_wrong 22 = .ok (.ifCond .ne 6, 3) := by decide +kernel
theorem dX9_wrong_25 : decode cX9_wrong 25 = .ok (.bipush (-2), 2) := by decide +kernel
theorem dX9_wrong_27 : decode cX9_wrong 27 = .ok (.ireturn, 1) := by decide +kernel
theorem dX9_wrong_28 : decode cX9_wrong 28 = .ok (.aload_n 0, 1) := by decide +kernel
theorem dX9_wrong_29 : decode cX9_wrong 29 = .ok (.getfield 7, 3) := by decide +kernel
theorem dX9_wrong_32 : decode cX9_wrong 32 = .ok (.iconst 5, 1) := by decide +kernel
theorem dX9_wrong_33 : decode cX9_wrong 33 = .ok (.iaload, 1) := by decide +kernel
theorem dX9_wrong_34 : decode cX9_wrong 34 = .ok (.bipush 60, 2) := by decide +kernel
theorem dX9_wrong_36 : decode cX9_wrong 36 = .ok (.if_icmp .ne 6, 3) := by decide +kernel
theorem dX9_wrong_39 : decode cX9_wrong 39 = .ok (.bipush (-3), 2) := by decide +kernel
theorem dX9_wrong_41 : decode cX9_wrong 41 = .ok (.ireturn, 1) := by decide +kernel
theorem dX9_wrong_42 : decode cX9_wrong 42 = .ok (.aload_n 0, 1) := by decide +kernel
theorem dX9_wrong_43 : decode cX9_wrong 43 = .ok (.iconst (-1), 1) := by decide +kernel
theorem dX9_wrong_44 : decode cX9_wrong 44 = .ok (.invokevirtual 124, 3) := by decide +kernel
theorem dX9_wrong_47 : decode cX9_wrong 47 = .ok (.aload_n 0, 1) := by decide +kernel
theorem dX9_wrong_48 : decode cX9_wrong 48 = .ok (.iload_n 1, 1) := by decide +kernel
theorem dX9_wrong_49 : decode cX9_wrong 49 = .ok (.iload_n 2, 1) := by decide +kernel
theorem dX9_wrong_50 : decode cX9_wrong 50 = .ok (.iload_n 3, 1) := by decide +kernel
theorem dX9_wrong_51 : decode cX9_wrong 51 = .ok (.iconst (-1), 1) := by decide +kernel
theorem dX9_wrong_52 : decode cX9_wrong 52 = .ok (.invokevirtual 100, 3) := by decide +kernel
theorem dX9_wrong_55 : decode cX9_wrong 55 = .ok (.istore 4, 2) := by decide +kernel
theorem dX9_wrong_57 : decode cX9_wrong 57 = .ok (.iload 4, 2) := by decide +kernel
theorem dX9_wrong_59 : decode cX9_wrong 59 = .ok (.ifCond .ne 7, 3) := by decide +kernel
theorem dX9_wrong_62 : decode cX9_wrong 62 = .ok (.iconst 0, 1) := by decide +kernel
theorem dX9_wrong_63 : decode cX9_wrong 63 = .ok (.goto 16, 3) := by decide +kernel
theorem dX9_wrong_66 : decode cX9_wrong 66 = .ok (.iload 4, 2) := by decide +kernel
theorem dX9_wrong_68 : decode cX9_wrong 68 = .ok (.iconst 1, 1) := by decide +kernel
theorem dX9_wrong_69 : decode cX9_wrong 69 = .ok (.if_icmp .ne 8, 3) := by decide +kernel
theorem dX9_wrong_72 : decode cX9_wrong 72 = .ok (.bipush (-6), 2) := by decide +kernel
theorem dX9_wrong_74 : decode cX9_wrong 74 = .ok (.goto 5, 3) := by decide +kernel
theorem dX9_wrong_77 : decode cX9_wrong 77 = .ok (.bipush (-7), 2) := by decide +kernel
theorem dX9_wrong_79 : decode cX9_wrong 79 = .ok (.ireturn, 1) := by decide +kernel
abbrev rX9_wrong : Room := { frames := 5, cells := 0, slots := 0, locals := 117 }
set_option maxRecDepth 20000 in
theorem c_X9_wrong (l : Launch) (y : Cy) (hy : Inj y) (p1 : Int32) (p2 : Int32) (p3 : Int32) (M : Mem) : CT l y yX9_wrong cX9_wrong 5 (some .int) rX9_wrong [.ref (y.2.1 143), .int p1, .int p2, .int p3] M (d_X9_wrong p1 p2 p3 M) := by
  refine CT_of (by decide) hy (Nat.le_of_ble_eq_true rfl) (fun x hxl h => ?_)
  show G x y 0 [(0, .ref (y.2.1 143)), (1, .int p1), (2, .int p2), (3, .int p3)] [] M _
  unfold d_X9_wrong
  refine G_iload_n (pc := 0) h.1 dX9_wrong_0 rfl 1 rfl ?_
  refine G_callS (pc := 1) (As := [.int p1]) (rest := []) h.1 h.2.2.1 lk_X9_114 (c_X9_noRobot x.1.2.1 y hy p1 M) rfl rfl (Nat.le_of_ble_eq_true rfl) ⟨rfl, rfl, Nat.le_of_ble_eq_true rfl, Nat.le_of_ble_eq_true rfl⟩ dX9_wrong_1 (fun r2 M1 => ?_)
  refine G_if_ne (pc := 4) (tgt := 15) h.1 dX9_wrong_4 (by decide) ?_ ?_
  · refine G_iconst (pc := 15) (v := (-1)) h.1 dX9_wrong_15 (by decide) ?_
    exact G_ret (pc := 16) h rfl dX9_wrong_16
  · refine G_aload_n (pc := 7) h.1 dX9_wrong_7 rfl 0 rfl ?_
    refine G_iload_n (pc := 8) h.1 dX9_wrong_8 rfl 2 rfl ?_
    refine G_callV (pc := 9) (As := [.int p2]) (rest := []) h.1 h.2.2.1 lk_X9_118 lN143 (eM143 _) rfl rfl (c_X9_noRecipe x.1.2.1 y hy p2 M1) rfl rfl (Nat.le_of_ble_eq_true rfl) ⟨rfl, rfl, Nat.le_of_ble_eq_true rfl, Nat.le_of_ble_eq_true rfl⟩ dX9_wrong_9 (fun r4 M3 => ?_)
    refine G_if_eq (pc := 12) (tgt := 17) h.1 dX9_wrong_12 (by decide) ?_ ?_
    · refine G_aload_n (pc := 17) h.1 dX9_wrong_17 rfl 0 rfl ?_
      refine G_iload_n (pc := 18) h.1 dX9_wrong_18 rfl 3 rfl ?_
      refine G_callV (pc := 19) (As := [.int p3]) (rest := []) h.1 h.2.2.1 lk_X9_121 lN143 (eM143 _) rfl rfl (c_X9_isStart x.1.2.1 y hy p3 M3) rfl rfl (Nat.le_of_ble_eq_true rfl) ⟨rfl, rfl, Nat.le_of_ble_eq_true rfl, Nat.le_of_ble_eq_true rfl⟩ dX9_wrong_19 (fun r6 M5 => ?_)
      refine G_if_ne (pc := 22) (tgt := 28) h.1 dX9_wrong_22 (by decide) ?_ ?_
      · refine G_aload_n (pc := 28) h.1 dX9_wrong_28 rfl 0 rfl ?_
        refine G_get (pc := 29) (v := .ref (y.2.1 144)) h.1 fl_X9_7 lN143 (eM143 _) rfl dX9_wrong_29 ?_
        refine G_iconst (pc := 32) (v := (5)) h.1 dX9_wrong_32 (by decide) ?_
        refine G_iald (pc := 33) h.1 lN144 (eM144 _) dX9_wrong_33 ?_
        refine G_bipush (pc := 34) (v := (60)) h.1 dX9_wrong_34 (by decide) ?_
        refine G_icmp_ne (pc := 36) (tgt := 42) h.1 dX9_wrong_36 (by decide) ?_ ?_
        · refine G_aload_n (pc := 42) h.1 dX9_wrong_42 rfl 0 rfl ?_
          refine G_iconst (pc := 43) (v := (-1)) h.1 dX9_wrong_43 (by decide) ?_
          refine G_callVv (pc := 44) (As := [.int (-1 : Int32)]) (rest := []) h.1 h.2.2.1 lk_X9_124 lN143 (eM143 _) rfl rfl (c_X9_bases x.1.2.1 y hy (-1 : Int32) M5) rfl rfl (Nat.le_of_ble_eq_true rfl) ⟨rfl, rfl, Nat.le_of_ble_eq_true rfl, Nat.le_of_ble_eq_true rfl⟩ dX9_wrong_44 (fun r8 M7 => ?_)
          refine G_aload_n (pc := 47) h.1 dX9_wrong_47 rfl 0 rfl ?_
          refine G_iload_n (pc := 48) h.1 dX9_wrong_48 rfl 1 rfl ?_
          refine G_iload_n (pc := 49) h.1 dX9_wrong_49 rfl 2 rfl ?_
          refine G_iload_n (pc := 50) h.1 dX9_wrong_50 rfl 3 rfl ?_
          refine G_iconst (pc := 51) (v := (-1)) h.1 dX9_wrong_51 (by decide) ?_
          refine G_callV (pc := 52) (As := [.int p1, .int p2, .int p3, .int (-1 : Int32)]) (rest := []) h.1 h.2.2.1 lk_X9_100 lN143 (eM143 _) rfl rfl (c_X9_reason x.1.2.1 y hy p1 p2 p3 (-1 : Int32) M7) rfl rfl (Nat.le_of_ble_eq_true rfl) ⟨rfl, rfl, Nat.le_of_ble_eq_true rfl, Nat.le_of_ble_eq_true rfl⟩ dX9_wrong_52 (fun r10 M9 => ?_)
          refine G_istore (pc := 55) h.1 h.2.1 [(4, .int r10), (0, .ref (y.2.1 143)), (1, .int p1), (2, .int p2), (3, .int p3)] dX9_wrong_55 (by decide) rfl ?_
          refine G_iload (pc := 57) h.1 dX9_wrong_57 0 rfl ?_
          refine G_if_ne (pc := 59) (tgt := 66) h.1 dX9_wrong_59 (by decide) ?_ ?_
          · refine G_iload (pc := 66) h.1 dX9_wrong_66 0 rfl ?_
            refine G_iconst (pc := 68) (v := (1)) h.1 dX9_wrong_68 (by decide) ?_
            refine G_icmp_ne (pc := 69) (tgt := 77) h.1 dX9_wrong_69 (by decide) ?_ ?_
            · refine G_bipush (pc := 77) (v := (-7)) h.1 dX9_wrong_77 (by decide) ?_
              exact G_ret (pc := 79) h rfl dX9_wrong_79
            · refine G_bipush (pc := 72) (v := (-6)) h.1 dX9_wrong_72 (by decide) ?_
              refine G_goto (pc := 74) (tgt := 79) h.1 dX9_wrong_74 (by decide) ?_
              exact G_ret (pc := 79) h rfl dX9_wrong_79
          · refine G_iconst (pc := 62) (v := (0)) h.1 dX9_wrong_62 (by decide) ?_
            refine G_goto (pc := 63) (tgt := 79) h.1 dX9_wrong_63 (by decide) ?_
            exact G_ret (pc := 79) h rfl dX9_wrong_79
        · refine G_bipush (pc := 39) (v := (-3)) h.1 dX9_wrong_39 (by decide) ?_
          exact G_ret (pc := 41) h rfl dX9_wrong_41
      · refine G_bipush (pc := 25) (v := (-2)) h.1 dX9_wrong_25 (by decide) ?_
        exact G_ret (pc := 27) h rfl dX9_wrong_27
    · refine G_iconst (pc := 15) (v := (-1)) h.1 dX9_wrong_15 (by decide) ?_
      exact G_ret (pc := 16) h rfl dX9_wrong_16
theorem dX9_book_0 : decode cX9_book 0 = .ok (.aload_n 0, 1) := by decide +kernel
theorem dX9_book_1 : decode cX9_book 1 = .ok (.iload_n 1, 1) := by decide +kernel
theorem dX9_book_2 : decode cX9_book 2 = .ok (.iload_n 2, 1) := by decide +kernel
theorem dX9_book_3 : decode cX9_book 3 = .ok (.iload_n 3, 1) := by decide +kernel
theorem dX9_book_4 : decode cX9_book 4 = .ok (.invokevirtual 127, 3) := by decide +kernel
theorem dX9_book_7 : decode cX9_book 7 = .ok (.istore 4, 2) := by decide +kernel
theorem dX9_book_9 : decode cX9_book 9 = .ok (.iload 4, 2) := by decide +kernel
theorem dX9_book_11 : decode cX9_book 11 = .ok (.ifCond .eq 6, 3) := by decide +kernel
theorem dX9_book_14 : decode cX9_book 14 = .ok (.iload 4, 2) := by decide +kernel
theorem dX9_book_16 : decode cX9_book 16 = .ok (.ireturn, 1) := by decide +kernel
theorem dX9_book_17 : decode cX9_book 17 = .ok (.aload_n 0, 1) := by decide +kernel
theorem dX9_book_18 : decode cX9_book 18 = .ok (.invokevirtual 107, 3) := by decide +kernel
theorem dX9_book_21 : decode cX9_book 21 = .ok (.aload_n 0, 1) := by decide +kernel
theorem dX9_book_22 : decode cX9_book 22 = .ok (.iload_n 1, 1) := by decide +kernel
theorem dX9_book_23 : decode cX9_book 23 = .ok (.iload_n 2, 1) := by decide +kernel
theorem dX9_book_24 : decode cX9_book 24 = .ok (.iload_n 3, 1) := by decide +kernel
theorem dX9_book_25 : decode cX9_book 25 = .ok (.invokevirtual 131, 3) := by decide +kernel
theorem dX9_book_28 : decode cX9_book 28 = .ok (.ireturn, 1) := by decide +kernel
abbrev rX9_book : Room := { frames := 6, cells := 0, slots := 0, locals := 141 }
set_option maxRecDepth 20000 in
theorem c_X9_book (l : Launch) (y : Cy) (hy : Inj y) (p1 : Int32) (p2 : Int32) (p3 : Int32) (M : Mem) : CT l y yX9_book cX9_book 5 (some .int) rX9_book [.ref (y.2.1 143), .int p1, .int p2, .int p3] M (d_X9_book p1 p2 p3 M) := by
  refine CT_of (by decide) hy (Nat.le_of_ble_eq_true rfl) (fun x hxl h => ?_)
  show G x y 0 [(0, .ref (y.2.1 143)), (1, .int p1), (2, .int p2), (3, .int p3)] [] M _
  unfold d_X9_book
  refine G_aload_n (pc := 0) h.1 dX9_book_0 rfl 0 rfl ?_
  refine G_iload_n (pc := 1) h.1 dX9_book_1 rfl 1 rfl ?_
  refine G_iload_n (pc := 2) h.1 dX9_book_2 rfl 2 rfl ?_
  refine G_iload_n (pc := 3) h.1 dX9_book_3 rfl 3 rfl ?_
  refine G_callV (pc := 4) (As := [.int p1, .int p2, .int p3]) (rest := []) h.1 h.2.2.1 lk_X9_127 lN143 (eM143 _) rfl rfl (c_X9_wrong x.1.2.1 y hy p1 p2 p3 M) rfl rfl (Nat.le_of_ble_eq_true rfl) ⟨rfl, rfl, Nat.le_of_ble_eq_true rfl, Nat.le_of_ble_eq_true rfl⟩ dX9_book_4 (fun r2 M1 => ?_)
  refine G_istore (pc := 7) h.1 h.2.1 [(4, .int r2), (0, .ref (y.2.1 143)), (1, .int p1), (2, .int p2), (3, .int p3)] dX9_book_7 (by decide) rfl ?_
  refine G_iload (pc := 9) h.1 dX9_book_9 0 rfl ?_
  refine G_if_eq (pc := 11) (tgt := 17) h.1 dX9_book_11 (by decide) ?_ ?_
  · refine G_aload_n (pc := 17) h.1 dX9_book_17 rfl 1 rfl ?_
    refine G_callVv (pc := 18) (As := []) (rest := []) h.1 h.2.2.1 lk_X9_107 lN143 (eM143 _) rfl rfl (c_X9_record x.1.2.1 y hy M1) rfl rfl (Nat.le_of_ble_eq_true rfl) ⟨rfl, rfl, Nat.le_of_ble_eq_true rfl, Nat.le_of_ble_eq_true rfl⟩ dX9_book_18 (fun r4 M3 => ?_)
    refine G_aload_n (pc := 21) h.1 dX9_book_21 rfl 1 rfl ?_
    refine G_iload_n (pc := 22) h.1 dX9_book_22 rfl 2 rfl ?_
    refine G_iload_n (pc := 23) h.1 dX9_book_23 rfl 3 rfl ?_
    refine G_iload_n (pc := 24) h.1 dX9_book_24 rfl 4 rfl ?_
    refine G_callV (pc := 25) (As := [.int p1, .int p2, .int p3]) (rest := []) h.1 h.2.2.1 lk_X9_131 lN143 (eM143 _) rfl rfl (c_X9_adds x.1.2.1 y hy p1 p2 p3 M3) rfl rfl (Nat.le_of_ble_eq_true rfl) ⟨rfl, rfl, Nat.le_of_ble_eq_true rfl, Nat.le_of_ble_eq_true rfl⟩ dX9_book_25 (fun r6 M5 => ?_)
    exact G_ret (pc := 28) h rfl dX9_book_28
  · refine G_iload (pc := 14) h.1 dX9_book_14 0 rfl ?_
    exact G_ret (pc := 16) h rfl dX9_book_16
theorem dX9_grants_0 : decode cX9_grants 0 = .ok (.aload_n 0, 1) := by decide +kernel
theorem dX9_grants_1 : decode cX9_grants 1 = .ok (.getfield 7, 3) := by decide +kernel
theorem dX9_grants_4 : decode cX9_grants 4 = .ok (.iconst 5, 1) := by decide +kernel
theorem dX9_grants_5 : decode cX9_grants 5 = .ok (.iaload, 1) := by decide +kernel
theorem dX9_grants_6 : decode cX9_grants 6 = .ok (.bipush 60, 2) := by decide +kernel
theorem dX9_grants_8 : decode cX9_grants 8 = .ok (.if_icmp .ne 6, 3) := by decide +kernel
theorem dX9_grants_11 : decode cX9_grants 11 = .ok (.bipush (-5), 2) := by decide +kernel
theorem dX9_grants_13 : decode cX9_grants 13 = .ok (.ireturn, 1) := by decide +kernel
theorem dX9_grants_14 : decode cX9_grants 14 = .ok (.aload_n 0, 1) := by decide +kernel
theorem dX9_grants_15 : decode cX9_grants 15 = .ok (.iconst (-1), 1) := by decide +kernel
theorem dX9_grants_16 : decode cX9_grants 16 = .ok (.invokevirtual 124, 3) := by decide +kernel
theorem dX9_grants_19 : decode cX9_grants 19 = .ok (.aload_n 0, 1) := by decide +kernel
theorem dX9_grants_20 : decode cX9_grants 20 = .ok (.iload_n 1, 1) := by decide +kernel
theorem dX9_grants_21 : decode cX9_grants 21 = .ok (.iload_n 2, 1) := by decide +kernel
theorem dX9_grants_22 : decode cX9_grants 22 = .ok (.iload_n 3, 1) := by decide +kernel
theorem dX9_grants_23 : decode cX9_grants 23 = .ok (.iload_n 3, 1) := by decide +kernel
theorem dX9_grants_24 : decode cX9_grants 24 = .ok (.bipush 20, 2) := by decide +kernel
theorem dX9_grants_26 : decode cX9_grants 26 = .ok (.iadd, 1) := by decide +kernel
theorem dX9_grants_27 : decode cX9_grants 27 = .ok (.iconst (-1), 1) := by decide +kernel
theorem dX9_grants_28 : decode cX9_grants 28 = .ok (.invokevirtual 134, 3) := by decide +kernel
theorem dX9_grants_31 : decode cX9_grants 31 = .ok (.istore 4, 2) := by decide +kernel
theorem dX9_grants_33 : decode cX9_grants 33 = .ok (.iload 4, 2) := by decide +kernel
theorem dX9_grants_35 : decode cX9_grants 35 = .ok (.bipush (-5), 2) := by decide +kernel
theorem dX9_grants_37 : decode cX9_grants 37 = .ok (.if_icmp .ne 6, 3) := by decide +kernel
theorem dX9_grants_40 : decode cX9_grants 40 = .ok (.bipush (-5), 2) := by decide +kernel
theorem dX9_grants_42 : decode cX9_grants 42 = .ok (.ireturn, 1) := by decide +kernel
theorem dX9_grants_43 : decode cX9_grants 43 = .ok (.aload_n 0, 1) := by decide +kernel
theorem dX9_grants_44 : decode cX9_grants 44 = .ok (.getfield 7, 3) := by decide +kernel
theorem dX9_grants_47 : decode cX9_grants 47 = .ok (.bipush 7, 2) := by decide +kernel
theorem dX9_grants_49 : decode cX9_grants 49 = .ok (.dup2, 1) := by decide +kernel
theorem dX9_grants_50 : decode cX9_grants 50 = .ok (.iaload, 1) := by decide +kernel
theorem dX9_grants_51 : decode cX9_grants 51 = .ok (.iconst 1, 1) := by decide +kernel
theorem dX9_grants_52 : decode cX9_grants 52 = .ok (.iadd, 1) := by decide +kernel
theorem dX9_grants_53 : decode cX9_grants 53 = .ok (.iastore, 1) := by decide +kernel
theorem dX9_grants_54 : decode cX9_grants 54 = .ok (.aload_n 0, 1) := by decide +kernel
theorem dX9_grants_55 : decode cX9_grants 55 = .ok (.iload_n 1, 1) := by decide +kernel
theorem dX9_grants_56 : decode cX9_grants 56 = .ok (.iload_n 2, 1) := by decide +kernel
theorem dX9_grants_57 : decode cX9_grants 57 = .ok (.iload 4, 2) := by decide +kernel
theorem dX9_grants_59 : decode cX9_grants 59 = .ok (.invokevirtual 131, 3) := by decide +kernel
theorem dX9_grants_62 : decode cX9_grants 62 = .ok (.ireturn, 1) := by decide +kernel
abbrev rX9_grants : Room := { frames := 6, cells := 0, slots := 0, locals := 145 }
set_option maxRecDepth 20000 in
theorem c_X9_grants (l : Launch) (y : Cy) (hy : Inj y) (p1 : Int32) (p2 : Int32) (p3 : Int32) (M : Mem) : CT l y yX9_grants cX9_grants 5 (some .int) rX9_grants [.ref (y.2.1 143), .int p1, .int p2, .int p3] M (d_X9_grants p1 p2 p3 M) := by
  refine CT_of (by decide) hy (Nat.le_of_ble_eq_true rfl) (fun x hxl h => ?_)
  show G x y 0 [(0, .ref (y.2.1 143)), (1, .int p1), (2, .int p2), (3, .int p3)] [] M _
  unfold d_X9_grants
  refine G_aload_n (pc := 0) h.1 dX9_grants_0 rfl 0 rfl ?_
  refine G_get (pc := 1) (v := .ref (y.2.1 144)) h.1 fl_X9_7 lN143 (eM143 _) rfl dX9_grants_1 ?_
  refine G_iconst (pc := 4) (v := (5)) h.1 dX9_grants_4 (by decide) ?_
  refine G_iald (pc := 5) h.1 lN144 (eM144 _) dX9_grants_5 ?_
  refine G_bipush (pc := 6) (v := (60)) h.1 dX9_grants_6 (by decide) ?_
  refine G_icmp_ne (pc := 8) (tgt := 14) h.1 dX9_grants_8 (by decide) ?_ ?_
  · refine G_aload_n (pc := 14) h.1 dX9_grants_14 rfl 0 rfl ?_
    refine G_iconst (pc := 15) (v := (-1)) h.1 dX9_grants_15 (by decide) ?_
    refine G_callVv (pc := 16) (As := [.int (-1 : Int32)]) (rest := []) h.1 h.2.2.1 lk_X9_124 lN143 (eM143 _) rfl rfl (c_X9_bases x.1.2.1 y hy (-1 : Int32) M) rfl rfl (Nat.le_of_ble_eq_true rfl) ⟨rfl, rfl, Nat.le_of_ble_eq_true rfl, Nat.le_of_ble_eq_true rfl⟩ dX9_grants_16 (fun r2 M1 => ?_)
    refine G_aload_n (pc := 19) h.1 dX9_grants_19 rfl 0 rfl ?_
    refine G_iload_n (pc := 20) h.1 dX9_grants_20 rfl 1 rfl ?_
    refine G_iload_n (pc := 21) h.1 dX9_grants_21 rfl 2 rfl ?_
    refine G_iload_n (pc := 22) h.1 dX9_grants_22 rfl 3 rfl ?_
    refine G_iload_n (pc := 23) h.1 dX9_grants_23 rfl 3 rfl ?_
    refine G_bipush (pc := 24) (v := (20)) h.1 dX9_grants_24 (by decide) ?_
    refine G_iadd (pc := 26) h.1 dX9_grants_26 ?_
    refine G_iconst (pc := 27) (v := (-1)) h.1 dX9_grants_27 (by decide) ?_
    refine G_callV (pc := 28) (As := [.int p1, .int p2, .int p3, .int (p3 + (20 : Int32)), .int (-1 : Int32)]) (rest := []) h.1 h.2.2.1 lk_X9_134 lN143 (eM143 _) rfl rfl (c_X9_first x.1.2.1 y hy p1 p2 p3 (p3 + (20 : Int32)) (-1 : Int32) M1) rfl rfl (Nat.le_of_ble_eq_true rfl) ⟨rfl, rfl, Nat.le_of_ble_eq_true rfl, Nat.le_of_ble_eq_true rfl⟩ dX9_grants_28 (fun r4 M3 => ?_)
    refine G_istore (pc := 31) h.1 h.2.1 [(4, .int r4), (0, .ref (y.2.1 143)), (1, .int p1), (2, .int p2), (3, .int p3)] dX9_grants_31 (by decide) rfl ?_
    refine G_iload (pc := 33) h.1 dX9_grants_33 0 rfl ?_
    refine G_bipush (pc := 35) (v := (-5)) h.1 dX9_grants_35 (by decide) ?_
    refine G_icmp_ne (pc := 37) (tgt := 43) h.1 dX9_grants_37 (by decide) ?_ ?_
    · refine G_aload_n (pc := 43) h.1 dX9_grants_43 rfl 1 rfl ?_
      refine G_get (pc := 44) (v := .ref (y.2.1 144)) h.1 fl_X9_7 lN143 (eM143 _) rfl dX9_grants_44 ?_
      refine G_bipush (pc := 47) (v := (7)) h.1 dX9_grants_47 (by decide) ?_
      refine G_dup2 (pc := 49) h.1 dX9_grants_49 rfl rfl ?_
      refine G_iald (pc := 50) h.1 lN144 (eM144 _) dX9_grants_50 ?_
      refine G_iconst (pc := 51) (v := (1)) h.1 dX9_grants_51 (by decide) ?_
      refine G_iadd (pc := 52) h.1 dX9_grants_52 ?_
      refine G_iast (pc := 53) h.1 lN144 (fun m => eM144 m) dX9_grants_53 (fun M5 => ?_)
      refine G_aload_n (pc := 54) h.1 dX9_grants_54 rfl 1 rfl ?_
      refine G_iload_n (pc := 55) h.1 dX9_grants_55 rfl 2 rfl ?_
      refine G_iload_n (pc := 56) h.1 dX9_grants_56 rfl 3 rfl ?_
      refine G_iload (pc := 57) h.1 dX9_grants_57 0 rfl ?_
      refine G_callV (pc := 59) (As := [.int p1, .int p2, .int r4]) (rest := []) h.1 h.2.2.1 lk_X9_131 lN143 (eM143 _) rfl rfl (c_X9_adds x.1.2.1 y hy p1 p2 r4 M5) rfl rfl (Nat.le_of_ble_eq_true rfl) ⟨rfl, rfl, Nat.le_of_ble_eq_true rfl, Nat.le_of_ble_eq_true rfl⟩ dX9_grants_59 (fun r7 M6 => ?_)
      exact G_ret (pc := 62) h rfl dX9_grants_62
    · refine G_bipush (pc := 40) (v := (-5)) h.1 dX9_grants_40 (by decide) ?_
      exact G_ret (pc := 42) h rfl dX9_grants_42
  · refine G_bipush (pc := 11) (v := (-5)) h.1 dX9_grants_11 (by decide) ?_
    exact G_ret (pc := 13) h rfl dX9_grants_13
theorem dX9_leaves_0 : decode cX9_leaves 0 = .ok (.aload_n 0, 1) := by decide +kernel
theorem dX9_leaves_1 : decode cX9_leaves 1 = .ok (.getfield 7, 3) := by decide +kernel
theorem dX9_leaves_4 : decode cX9_leaves 4 = .ok (.bipush 6, 2) := by decide +kernel
theorem dX9_leaves_6 : decode cX9_leaves 6 = .ok (.dup2, 1) := by decide +kernel
theorem dX9_leaves_7 : decode cX9_leaves 7 = .ok (.iaload, 1) := by decide +kernel
theorem dX9_leaves_8 : decode cX9_leaves 8 = .ok (.iconst 1, 1) := by decide +kernel
theorem dX9_leaves_9 : decode cX9_leaves 9 = .ok (.isub, 1) := by decide +kernel
theorem dX9_leaves_10 : decode cX9_leaves 10 = .ok (.iastore, 1) := by decide +kernel
theorem dX9_leaves_11 : decode cX9_leaves 11 = .ok (.iconst 3, 1) := by decide +kernel
theorem dX9_leaves_12 : decode cX9_leaves 12 = .ok (.iload_n 1, 1) := by decide +kernel
theorem dX9_leaves_13 : decode cX9_leaves 13 = .ok (.imul, 1) := by decide +kernel
theorem dX9_leaves_14 : decode cX9_leaves 14 = .ok (.istore_n 2, 1) := by decide +kernel
theorem dX9_leaves_15 : decode cX9_leaves 15 = .ok (.iload_n 2, 1) := by decide +kernel
theorem dX9_leaves_16 : decode cX9_leaves 16 = .ok (.iconst 3, 1) := by decide +kernel
theorem dX9_leaves_17 : decode cX9_leaves 17 = .ok (.aload_n 0, 1) := by decide +kernel
theorem dX9_leaves_18 : decode cX9_leaves 18 = .ok (.getfield 7, 3) := by decide +kernel
theorem dX9_leaves_21 : decode cX9_leaves 21 = .ok (.bipush 6, 2) := by decide +kernel
theorem dX9_leaves_23 : decode cX9_leaves 23 = .ok (.iaload, 1) := by decide +kernel
theorem dX9_leaves_24 : decode cX9_leaves 24 = .ok (.imul, 1) := by decide +kernel
theorem dX9_leaves_25 : decode cX9_leaves 25 = .ok (.if_icmp .ge 31, 3) := by decide +kernel
theorem dX9_leaves_28 : decode cX9_leaves 28 = .ok (.aload_n 0, 1) := by decide +kernel
theorem dX9_leaves_29 : decode cX9_leaves 29 = .ok (.getfield 7, 3) := by decide +kernel
theorem dX9_leaves_32 : decode cX9_leaves 32 = .ok (.sipush 342, 3) := by decide +kernel
theorem dX9_leaves_35 : decode cX9_leaves 35 = .ok (.iload_n 2, 1) := by decide +kernel
theorem dX9_leaves_36 : decode cX9_leaves 36 = .ok (.iadd, 1) := by decide +kernel
theorem dX9_leaves_37 : decode cX9_leaves 37 = .ok (.aload_n 0, 1) := by decide +kernel
theorem dX9_leaves_38 : decode cX9_leaves 38 = .ok (.getfield 7, 3) := by decide +kernel
theorem dX9_leaves_41 : decode cX9_leaves 41 = .ok (.sipush 342, 3) := by decide +kernel
theorem dX9_leaves_44 : decode cX9_leaves 44 = .ok (.iload_n 2, 1) := by decide +kernel
theorem dX9_leaves_45 : decode cX9_leaves 45 = .ok (.iadd, 1) := by decide +kernel
theorem dX9_leaves_46 : decode cX9_leaves 46 = .ok (.iconst 3, 1) := by decide +kernel
theorem dX9_leaves_47 : decode cX9_leaves 47 = .ok (.iadd, 1) := by decide +kernel
theorem dX9_leaves_48 : decode cX9_leaves 48 = .ok (.iaload, 1) := by decide +kernel
theorem dX9_leaves_49 : decode cX9_leaves 49 = .ok (.iastore, 1) := by decide +kernel
theorem dX9_leaves_50 : decode cX9_leaves 50 = .ok (.iinc 2 1, 3) := by decide +kernel
theorem dX9_leaves_53 : decode cX9_leaves 53 = .ok (.goto (-38), 3) := by decide +kernel
theorem dX9_leaves_56 : decode cX9_leaves 56 = .ok (.return_, 1) := by decide +kernel
abbrev rX9_leaves : Room := { frames := 0, cells := 0, slots := 0, locals := 0 }
set_option maxRecDepth 20000 in
theorem gd_X9_leaves_L15_body {x : Cx} {y : Cy} (hy : Inj y) (h : OkM x y cX9_leaves RX9 3 none rX9_leaves) (kx1 : Mem → Ans) (hx1 : ∀ M0 : Mem, G x y 56 [] [] M0 (kx1 M0)) (kb : Int32 → Mem → Ans) (hb : ∀ (b2 : Int32), ∀ M0 : Mem, G x y 15 [(0, .ref (y.2.1 143)), (2, .int b2)] [] M0 (kb b2 M0)) (a2 : Int32) (M : Mem) : G x y 15 [(0, .ref (y.2.1 143)), (2, .int a2)] [] M (d_X9_leaves_L15_body kx1 kb a2 M) := by
  unfold d_X9_leaves_L15_body
  refine G_iload_n (pc := 15) h.1 dX9_leaves_15 rfl 1 rfl ?_
  refine G_iconst (pc := 16) (v := (3)) h.1 dX9_leaves_16 (by decide) ?_
  refine G_aload_n (pc := 17) h.1 dX9_leaves_17 rfl 0 rfl ?_
  refine G_get (pc := 18) (v := .ref (y.2.1 144)) h.1 fl_X9_7 lN143 (eM143 _) rfl dX9_leaves_18 ?_
  refine G_bipush (pc := 21) (v := (6)) h.1 dX9_leaves_21 (by decide) ?_
  refine G_iald (pc := 23) h.1 lN144 (eM144 _) dX9_leaves_23 ?_
  refine G_imul (pc := 24) h.1 dX9_leaves_24 ?_
  refine G_icmp_ge (pc := 25) (tgt := 56) h.1 dX9_leaves_25 (by decide) ?_ ?_
  · exact G_sub [] rfl (hx1 M)
  · refine G_aload_n (pc := 28) h.1 dX9_leaves_28 rfl 0 rfl ?_
    refine G_get (pc := 29) (v := .ref (y.2.1 144)) h.1 fl_X9_7 lN143 (eM143 _) rfl dX9_leaves_29 ?_
    refine G_sipush (pc := 32) (v := (342)) h.1 dX9_leaves_32 (by decide) ?_
    refine G_iload_n (pc := 35) h.1 dX9_leaves_35 rfl 1 rfl ?_
    refine G_iadd (pc := 36) h.1 dX9_leaves_36 ?_
    refine G_aload_n (pc := 37) h.1 dX9_leaves_37 rfl 0 rfl ?_
    refine G_get (pc := 38) (v := .ref (y.2.1 144)) h.1 fl_X9_7 lN143 (eM143 _) rfl dX9_leaves_38 ?_
    refine G_sipush (pc := 41) (v := (342)) h.1 dX9_leaves_41 (by decide) ?_
    refine G_iload_n (pc := 44) h.1 dX9_leaves_44 rfl 1 rfl ?_
    refine G_iadd (pc := 45) h.1 dX9_leaves_45 ?_
    refine G_iconst (pc := 46) (v := (3)) h.1 dX9_leaves_46 (by decide) ?_
    refine G_iadd (pc := 47) h.1 dX9_leaves_47 ?_
    refine G_iald (pc := 48) h.1 lN144 (eM144 _) dX9_leaves_48 ?_
    refine G_iast (pc := 49) h.1 lN144 (fun m => eM144 m) dX9_leaves_49 (fun M3 => ?_)
    refine G_iinc (pc := 50) (v := a2 + (1)) h.1 h.2.1 (fun v4 => [(2, .int v4), (0, .ref (y.2.1 143))]) dX9_leaves_50 (by decide) 1 rfl rfl (fun _ => rfl) (fun v4 => ?_)
    refine G_goto (pc := 53) (tgt := 15) h.1 dX9_leaves_53 (by decide) ?_
    exact G_sub [1, 0] rfl (hb v4 M3)
set_option maxRecDepth 20000 in
theorem gd_X9_leaves_L15 {x : Cx} {y : Cy} (hy : Inj y) (h : OkM x y cX9_leaves RX9 3 none rX9_leaves) (kx1 : Mem → Ans) (hx1 : ∀ M0 : Mem, G x y 56 [] [] M0 (kx1 M0)) : ∀ (n : Nat) (a2 : Int32) (M : Mem), G x y 15 [(0, .ref (y.2.1 143)), (2, .int a2)] [] M (d_X9_leaves_L15 kx1 n a2 M) := by
  intro n
  induction n with
  | zero => intro a2 M; exact G_none
  | succ n ih => intro a2 M; exact gd_X9_leaves_L15_body hy h kx1 hx1 _ ih a2 M
set_option maxRecDepth 20000 in
theorem c_X9_leaves (l : Launch) (y : Cy) (hy : Inj y) (p1 : Int32) (M : Mem) : CT l y yX9_leaves cX9_leaves 3 none rX9_leaves [.ref (y.2.1 143), .int p1] M (d_X9_leaves p1 M) := by
  refine CT_of (by decide) hy (Nat.le_of_ble_eq_true rfl) (fun x hxl h => ?_)
  show G x y 0 [(0, .ref (y.2.1 143)), (1, .int p1)] [] M _
  unfold d_X9_leaves
  refine G_aload_n (pc := 0) h.1 dX9_leaves_0 rfl 0 rfl ?_
  refine G_get (pc := 1) (v := .ref (y.2.1 144)) h.1 fl_X9_7 lN143 (eM143 _) rfl dX9_leaves_1 ?_
  refine G_bipush (pc := 4) (v := (6)) h.1 dX9_leaves_4 (by decide) ?_
  refine G_dup2 (pc := 6) h.1 dX9_leaves_6 rfl rfl ?_
  refine G_iald (pc := 7) h.1 lN144 (eM144 _) dX9_leaves_7 ?_
  refine G_iconst (pc := 8) (v := (1)) h.1 dX9_leaves_8 (by decide) ?_
  refine G_isub (pc := 9) h.1 dX9_leaves_9 ?_
  refine G_iast (pc := 10) h.1 lN144 (fun m => eM144 m) dX9_leaves_10 (fun M1 => ?_)
  refine G_iconst (pc := 11) (v := (3)) h.1 dX9_leaves_11 (by decide) ?_
  refine G_iload_n (pc := 12) h.1 dX9_leaves_12 rfl 1 rfl ?_
  refine G_imul (pc := 13) h.1 dX9_leaves_13 ?_
  refine G_top (fun v2 => ?_)
  refine G_istore_n (pc := 14) h.1 h.2.1 [(2, .int v2), (0, .ref (y.2.1 143)), (1, .int p1)] dX9_leaves_14 rfl (by decide) rfl ?_
  refine G_sub [1, 0] rfl (gd_X9_leaves_L15 hy h _ (fun M5 => ?_) fuelN v2 M1)
  exact G_vret (pc := 56) h dX9_leaves_56
theorem dX9_cancel_0 : decode cX9_cancel 0 = .ok (.aload_n 0, 1) := by decide +kernel
theorem dX9_cancel_1 : decode cX9_cancel 1 = .ok (.iload_n 1, 1) := by decide +kernel
theorem dX9_cancel_2 : decode cX9_cancel 2 = .ok (.invokevirtual 138, 3) := by decide +kernel
theorem dX9_cancel_5 : decode cX9_cancel 5 = .ok (.ifCond .eq 5, 3) := by decide +kernel
theorem dX9_cancel_8 : decode cX9_cancel 8 = .ok (.iconst (-1), 1) := by decide +kernel
theorem dX9_cancel_9 : decode cX9_cancel 9 = .ok (.ireturn, 1) := by decide +kernel
theorem dX9_cancel_10 : decode cX9_cancel 10 = .ok (.aload_n 0, 1) := by decide +kernel
theorem dX9_cancel_11 : decode cX9_cancel 11 = .ok (.iload_n 1, 1) := by decide +kernel
theorem dX9_cancel_12 : decode cX9_cancel 12 = .ok (.invokevirtual 141, 3) := by decide +kernel
theorem dX9_cancel_15 : decode cX9_cancel 15 = .ok (.ifCond .ne 6, 3) := by decide +kernel
theorem dX9_cancel_18 : decode cX9_cancel 18 = .ok (.bipush (-4), 2) := by decide +kernel
theorem dX9_cancel_20 : decode cX9_cancel 20 = .ok (.ireturn, 1) := by decide +kernel
theorem dX9_cancel_21 : decode cX9_cancel 21 = .ok (.aload_n 0, 1) := by decide +kernel
theorem dX9_cancel_22 : decode cX9_cancel 22 = .ok (.invokevirtual 107, 3) := by decide +kernel
theorem dX9_cancel_25 : decode cX9_cancel 25 = .ok (.aload_n 0, 1) := by decide +kernel
theorem dX9_cancel_26 : decode cX9_cancel 26 = .ok (.iload_n 1, 1) := by decide +kernel
theorem dX9_cancel_27 : decode cX9_cancel 27 = .ok (.iconst 3, 1) := by decide +kernel
theorem dX9_cancel_28 : decode cX9_cancel 28 = .ok (.iconst 4, 1) := by decide +kernel
theorem dX9_cancel_29 : decode cX9_cancel 29 = .ok (.invokevirtual 103, 3) := by decide +kernel
theorem dX9_cancel_32 : decode cX9_cancel 32 = .ok (.iconst 0, 1) := by decide +kernel
theorem dX9_cancel_33 : decode cX9_cancel 33 = .ok (.istore_n 2, 1) := by decide +kernel
theorem dX9_cancel_34 : decode cX9_cancel 34 = .ok (.iconst 0, 1) := by decide +kernel
theorem dX9_cancel_35 : decode cX9_cancel 35 = .ok (.istore_n 3, 1) := by decide +kernel
theorem dX9_cancel_36 : decode cX9_cancel 36 = .ok (.iload_n 3, 1) := by decide +kernel
theorem dX9_cancel_37 : decode cX9_cancel 37 = .ok (.aload_n 0, 1) := by decide +kernel
theorem dX9_cancel_38 : decode cX9_cancel 38 = .ok (.getfield 7, 3) := by decide +kernel
theorem dX9_cancel_41 : decode cX9_cancel 41 = .ok (.bipush 6, 2) := by decide +kernel
theorem dX9_cancel_43 : decode cX9_cancel 43 = .ok (.iaload, 1) := by decide +kernel
theorem dX9_cancel_44 : decode cX9_cancel 44 = .ok (.if_icmp .ge 47, 3) := by decide +kernel
theorem dX9_cancel_47 : decode cX9_cancel 47 = .ok (.aload_n 0, 1) := by decide +kernel
theorem dX9_cancel_48 : decode cX9_cancel 48 = .ok (.aload_n 0, 1) := by decide +kernel
theorem dX9_cancel_49 : decode cX9_cancel 49 = .ok (.iload_n 3, 1) := by decide +kernel
theorem dX9_cancel_50 : decode cX9_cancel 50 = .ok (.iconst 0, 1) := by decide +kernel
theorem dX9_cancel_51 : decode cX9_cancel 51 = .ok (.invokevirtual 144, 3) := by decide +kernel
theorem dX9_cancel_54 : decode cX9_cancel 54 = .ok (.aload_n 0, 1) := by decide +kernel
theorem dX9_cancel_55 : decode cX9_cancel 55 = .ok (.iload_n 3, 1) := by decide +kernel
theorem dX9_cancel_56 : decode cX9_cancel 56 = .ok (.iconst 1, 1) := by decide +kernel
theorem dX9_cancel_57 : decode cX9_cancel 57 = .ok (.invokevirtual 144, 3) := by decide +kernel
theorem dX9_cancel_60 : decode cX9_cancel 60 = .ok (.aload_n 0, 1) := by decide +kernel
theorem dX9_cancel_61 : decode cX9_cancel 61 = .ok (.iload_n 3, 1) := by decide +kernel
theorem dX9_cancel_62 : decode cX9_cancel 62 = .ok (.iconst 2, 1) := by decide +kernel
theorem dX9_cancel_63 : decode cX9_cancel 63 = .ok (.invokevirtual 144, 3) := by decide +kernel
theorem dX9_cancel_66 : decode cX9_cancel 66 = .ok (.invokevirtual 147, 3) := by decide +kernel
theorem dX9_cancel_69 : decode cX9_cancel 69 = .ok (.bipush (-5), 2) := by decide +kernel
theorem dX9_cancel_71 : decode cX9_cancel 71 = .ok (.if_icmp .ne 9, 3) := by decide +kernel
theorem dX9_cancel_74 : decode cX9_cancel 74 = .ok (.iinc 3 1, 3) := by decide +kernel
theorem dX9_cancel_77 : decode cX9_cancel 77 = .ok (.goto (-41), 3) := by decide +kernel
theorem dX9_cancel_80 : decode cX9_cancel 80 = .ok (.aload_n 0, 1) := by decide +kernel
theorem dX9_cancel_81 : decode cX9_cancel 81 = .ok (.iload_n 3, 1) := by decide +kernel
theorem dX9_cancel_82 : decode cX9_cancel 82 = .ok (.invokevirtual 150, 3) := by decide +kernel
theorem dX9_cancel_85 : decode cX9_cancel 85 = .ok (.iinc 2 1, 3) := by decide +kernel
theorem dX9_cancel_88 : decode cX9_cancel 88 = .ok (.goto (-52), 3) := by decide +kernel
theorem dX9_cancel_91 : decode cX9_cancel 91 = .ok (.iload_n 2, 1) := by decide +kernel
theorem dX9_cancel_92 : decode cX9_cancel 92 = .ok (.ireturn, 1) := by decide +kernel
abbrev rX9_cancel : Room := { frames := 7, cells := 0, slots := 0, locals := 169 }
set_option maxRecDepth 20000 in
theorem gd_X9_cancel_L36_body {x : Cx} {y : Cy} (hy : Inj y) (h : OkM x y cX9_cancel RX9 4 (some .int) rX9_cancel) (kx1 : Int32 → Mem → Ans) (hx1 : ∀ (b2 : Int32), ∀ M0 : Mem, G x y 91 [(2, .int b2)] [] M0 (kx1 b2 M0)) (kb : Int32 → Int32 → Mem → Ans) (hb : ∀ (b2 b3 : Int32), ∀ M0 : Mem, G x y 36 [(0, .ref (y.2.1 143)), (2, .int b2), (3, .int b3)] [] M0 (kb b2 b3 M0)) (a2 : Int32) (a3 : Int32) (M : Mem) : G x y 36 [(0, .ref (y.2.1 143)), (2, .int a2), (3, .int a3)] [] M (d_X9_cancel_L36_body kx1 kb a2 a3 M) := by
  unfold d_X9_cancel_L36_body
  refine G_iload_n (pc := 36) h.1 dX9_cancel_36 rfl 2 rfl ?_
  refine G_aload_n (pc := 37) h.1 dX9_cancel_37 rfl 0 rfl ?_
  refine G_get (pc := 38) (v := .ref (y.2.1 144)) h.1 fl_X9_7 lN143 (eM143 _) rfl dX9_cancel_38 ?_
  refine G_bipush (pc := 41) (v := (6)) h.1 dX9_cancel_41 (by decide) ?_
  refine G_iald (pc := 43) h.1 lN144 (eM144 _) dX9_cancel_43 ?_
  refine G_icmp_ge (pc := 44) (tgt := 91) h.1 dX9_cancel_44 (by decide) ?_ ?_
  · exact G_sub [1] rfl (hx1 a2 M)
  · refine G_aload_n (pc := 47) h.1 dX9_cancel_47 rfl 0 rfl ?_
    refine G_aload_n (pc := 48) h.1 dX9_cancel_48 rfl 0 rfl ?_
    refine G_iload_n (pc := 49) h.1 dX9_cancel_49 rfl 2 rfl ?_
    refine G_iconst (pc := 50) (v := (0)) h.1 dX9_cancel_50 (by decide) ?_
    refine G_callV (pc := 51) (As := [.int a3, .int (0 : Int32)]) (rest := [.ref (y.2.1 143)]) h.1 h.2.2.1 lk_X9_144 lN143 (eM143 _) rfl rfl (c_X9_ofWish x.1.2.1 y hy a3 (0 : Int32) M) rfl rfl (Nat.le_of_ble_eq_true rfl) ⟨rfl, rfl, Nat.le_of_ble_eq_true rfl, Nat.le_of_ble_eq_true rfl⟩ dX9_cancel_51 (fun r10 M9 => ?_)
    refine G_aload_n (pc := 54) h.1 dX9_cancel_54 rfl 0 rfl ?_
    refine G_iload_n (pc := 55) h.1 dX9_cancel_55 rfl 2 rfl ?_
    refine G_iconst (pc := 56) (v := (1)) h.1 dX9_cancel_56 (by decide) ?_
    refine G_callV (pc := 57) (As := [.int a3, .int (1 : Int32)]) (rest := [.int r10, .ref (y.2.1 143)]) h.1 h.2.2.1 lk_X9_144 lN143 (eM143 _) rfl rfl (c_X9_ofWish x.1.2.1 y hy a3 (1 : Int32) M9) rfl rfl (Nat.le_of_ble_eq_true rfl) ⟨rfl, rfl, Nat.le_of_ble_eq_true rfl, Nat.le_of_ble_eq_true rfl⟩ dX9_cancel_57 (fun r12 M11 => ?_)
    refine G_aload_n (pc := 60) h.1 dX9_cancel_60 rfl 0 rfl ?_
    refine G_iload_n (pc := 61) h.1 dX9_cancel_61 rfl 2 rfl ?_
    refine G_iconst (pc := 62) (v := (2)) h.1 dX9_cancel_62 (by decide) ?_
    refine G_callV (pc := 63) (As := [.int a3, .int (2 : Int32)]) (rest := [.int r12, .int r10, .ref (y.2.1 143)]) h.1 h.2.2.1 lk_X9_144 lN143 (eM143 _) rfl rfl (c_X9_ofWish x.1.2.1 y hy a3 (2 : Int32) M11) rfl rfl (Nat.le_of_ble_eq_true rfl) ⟨rfl, rfl, Nat.le_of_ble_eq_true rfl, Nat.le_of_ble_eq_true rfl⟩ dX9_cancel_63 (fun r14 M13 => ?_)
    refine G_callV (pc := 66) (As := [.int r10, .int r12, .int r14]) (rest := []) h.1 h.2.2.1 lk_X9_147 lN143 (eM143 _) rfl rfl (c_X9_grants x.1.2.1 y hy r10 r12 r14 M13) rfl rfl (Nat.le_of_ble_eq_true rfl) ⟨rfl, rfl, Nat.le_of_ble_eq_true rfl, Nat.le_of_ble_eq_true rfl⟩ dX9_cancel_66 (fun r16 M15 => ?_)
    refine G_bipush (pc := 69) (v := (-5)) h.1 dX9_cancel_69 (by decide) ?_
    refine G_icmp_ne (pc := 71) (tgt := 80) h.1 dX9_cancel_71 (by decide) ?_ ?_
    · refine G_aload_n (pc := 80) h.1 dX9_cancel_80 rfl 0 rfl ?_
      refine G_iload_n (pc := 81) h.1 dX9_cancel_81 rfl 2 rfl ?_
      refine G_callVv (pc := 82) (As := [.int a3]) (rest := []) h.1 h.2.2.1 lk_X9_150 lN143 (eM143 _) rfl rfl (c_X9_leaves x.1.2.1 y hy a3 M15) rfl rfl (Nat.le_of_ble_eq_true rfl) ⟨rfl, rfl, Nat.le_of_ble_eq_true rfl, Nat.le_of_ble_eq_true rfl⟩ dX9_cancel_82 (fun r18 M17 => ?_)
      refine G_iinc (pc := 85) (v := a2 + (1)) h.1 h.2.1 (fun v19 => [(2, .int v19), (0, .ref (y.2.1 143)), (3, .int a3)]) dX9_cancel_85 (by decide) 1 rfl rfl (fun _ => rfl) (fun v19 => ?_)
      refine G_goto (pc := 88) (tgt := 36) h.1 dX9_cancel_88 (by decide) ?_
      exact G_sub [1, 0, 2] rfl (hb v19 a3 M17)
    · refine G_iinc (pc := 74) (v := a3 + (1)) h.1 h.2.1 (fun v20 => [(3, .int v20), (0, .ref (y.2.1 143)), (2, .int a2)]) dX9_cancel_74 (by decide) 2 rfl rfl (fun _ => rfl) (fun v20 => ?_)
      refine G_goto (pc := 77) (tgt := 36) h.1 dX9_cancel_77 (by decide) ?_
      exact G_sub [1, 2, 0] rfl (hb a2 v20 M15)
set_option maxRecDepth 20000 in
theorem gd_X9_cancel_L36 {x : Cx} {y : Cy} (hy : Inj y) (h : OkM x y cX9_cancel RX9 4 (some .int) rX9_cancel) (kx1 : Int32 → Mem → Ans) (hx1 : ∀ (b2 : Int32), ∀ M0 : Mem, G x y 91 [(2, .int b2)] [] M0 (kx1 b2 M0)) : ∀ (n : Nat) (a2 : Int32) (a3 : Int32) (M : Mem), G x y 36 [(0, .ref (y.2.1 143)), (2, .int a2), (3, .int a3)] [] M (d_X9_cancel_L36 kx1 n a2 a3 M) := by
  intro n
  induction n with
  | zero => intro a2 a3 M; exact G_none
  | succ n ih => intro a2 a3 M; exact gd_X9_cancel_L36_body hy h kx1 hx1 _ ih a2 a3 M
set_option maxRecDepth 20000 in
theorem c_X9_cancel (l : Launch) (y : Cy) (hy : Inj y) (p1 : Int32) (M : Mem) : CT l y yX9_cancel cX9_cancel 4 (some .int) rX9_cancel [.ref (y.2.1 143), .int p1] M (d_X9_cancel p1 M) := by
  refine CT_of (by decide) hy (Nat.le_of_ble_eq_true rfl) (fun x hxl h => ?_)
  show G x y 0 [(0, .ref (y.2.1 143)), (1, .int p1)] [] M _
  unfold d_X9_cancel
  refine G_aload_n (pc := 0) h.1 dX9_cancel_0 rfl 0 rfl ?_
  refine G_iload_n (pc := 1) h.1 dX9_cancel_1 rfl 1 rfl ?_
  refine G_callV (pc := 2) (As := [.int p1]) (rest := []) h.1 h.2.2.1 lk_X9_138 lN143 (eM143 _) rfl rfl (c_X9_noBooking x.1.2.1 y hy p1 M) rfl rfl (Nat.le_of_ble_eq_true rfl) ⟨rfl, rfl, Nat.le_of_ble_eq_true rfl, Nat.le_of_ble_eq_true rfl⟩ dX9_cancel_2 (fun r2 M1 => ?_)
  refine G_if_eq (pc := 5) (tgt := 10) h.1 dX9_cancel_5 (by decide) ?_ ?_
  · refine G_aload_n (pc := 10) h.1 dX9_cancel_10 rfl 0 rfl ?_
    refine G_iload_n (pc := 11) h.1 dX9_cancel_11 rfl 1 rfl ?_
    refine G_callV (pc := 12) (As := [.int p1]) (rest := []) h.1 h.2.2.1 lk_X9_141 lN143 (eM143 _) rfl rfl (c_X9_isOpen x.1.2.1 y hy p1 M1) rfl rfl (Nat.le_of_ble_eq_true rfl) ⟨rfl, rfl, Nat.le_of_ble_eq_true rfl, Nat.le_of_ble_eq_true rfl⟩ dX9_cancel_12 (fun r4 M3 => ?_)
    refine G_if_ne (pc := 15) (tgt := 21) h.1 dX9_cancel_15 (by decide) ?_ ?_
    · refine G_aload_n (pc := 21) h.1 dX9_cancel_21 rfl 0 rfl ?_
      refine G_callVv (pc := 22) (As := []) (rest := []) h.1 h.2.2.1 lk_X9_107 lN143 (eM143 _) rfl rfl (c_X9_record x.1.2.1 y hy M3) rfl rfl (Nat.le_of_ble_eq_true rfl) ⟨rfl, rfl, Nat.le_of_ble_eq_true rfl, Nat.le_of_ble_eq_true rfl⟩ dX9_cancel_22 (fun r6 M5 => ?_)
      refine G_aload_n (pc := 25) h.1 dX9_cancel_25 rfl 0 rfl ?_
      refine G_iload_n (pc := 26) h.1 dX9_cancel_26 rfl 1 rfl ?_
      refine G_iconst (pc := 27) (v := (3)) h.1 dX9_cancel_27 (by decide) ?_
      refine G_iconst (pc := 28) (v := (4)) h.1 dX9_cancel_28 (by decide) ?_
      refine G_callVv (pc := 29) (As := [.int p1, .int (3 : Int32), .int (4 : Int32)]) (rest := []) h.1 h.2.2.1 lk_X9_103 lN143 (eM143 _) rfl rfl (c_X9_puts x.1.2.1 y hy p1 (3 : Int32) (4 : Int32) M5) rfl rfl (Nat.le_of_ble_eq_true rfl) ⟨rfl, rfl, Nat.le_of_ble_eq_true rfl, Nat.le_of_ble_eq_true rfl⟩ dX9_cancel_29 (fun r8 M7 => ?_)
      refine G_iconst (pc := 32) (v := (0)) h.1 dX9_cancel_32 (by decide) ?_
      refine G_istore_n (pc := 33) h.1 h.2.1 [(2, .int (0 : Int32)), (0, .ref (y.2.1 143)), (1, .int p1)] dX9_cancel_33 rfl (by decide) rfl ?_
      refine G_iconst (pc := 34) (v := (0)) h.1 dX9_cancel_34 (by decide) ?_
      refine G_istore_n (pc := 35) h.1 h.2.1 [(3, .int (0 : Int32)), (2, .int (0 : Int32)), (0, .ref (y.2.1 143)), (1, .int p1)] dX9_cancel_35 rfl (by decide) rfl ?_
      refine G_sub [2, 1, 0] rfl (gd_X9_cancel_L36 hy h _ (fun v21 M22 => ?_) fuelN (0 : Int32) (0 : Int32) M7)
      refine G_iload_n (pc := 91) h.1 dX9_cancel_91 rfl 0 rfl ?_
      exact G_ret (pc := 92) h rfl dX9_cancel_92
    · refine G_bipush (pc := 18) (v := (-4)) h.1 dX9_cancel_18 (by decide) ?_
      exact G_ret (pc := 20) h rfl dX9_cancel_20
  · refine G_iconst (pc := 8) (v := (-1)) h.1 dX9_cancel_8 (by decide) ?_
    exact G_ret (pc := 9) h rfl dX9_cancel_9
theorem dX9_move_0 : decode cX9_move 0 = .ok (.aload_n 0, 1) := by decide +kernel
theorem dX9_move_1 : decode cX9_move 1 = .ok (.iload_n 1, 1) := by decide +kernel
theorem dX9_move_2 : decode cX9_move 2 = .ok (.invokevirtual 138, 3) := by decide +kernel
theorem dX9_move_5 : decode cX9_move 5 = .ok (.ifCond .eq 5, 3) := by decide +kernel
theorem dX9_move_8 : decode cX9_move 8 = .ok (.iconst (-1), 1) := by decide +kernel
theorem dX9_move_9 : decode cX9_move 9 = .ok (.ireturn, 1) := by decide +kernel
theorem dX9_move_10 : decode cX9_move 10 = .ok (.aload_n 0, 1) := by decide +kernel
theorem dX9_move_11 : decode cX9_move 11 = .ok (.iload_n 1, 1) := by decide +kernel
theorem dX9_move_12 : decode cX9_move 12 = .ok (.iconst 3, 1) := by decide +kernel
theorem dX9_move_13 : decode cX9_move 13 = .ok (.invokevirtual 56, 3) := by decide +kernel
theorem dX9_move_16 : decode cX9_move 16 = .ok (.ifCond .eq 6, 3) := by decide +kernel
theorem dX9_move_19 : decode cX9_move 19 = .ok (.bipush (-4), 2) := by decide +kernel
theorem dX9_move_21 : decode cX9_move 21 = .ok (.ireturn, 1) := by decide +kernel
theorem dX9_move_22 : decode cX9_move 22 = .ok (.aload_n 0, 1) := by decide +kernel
theorem dX9_move_23 : decode cX9_move 23 = .ok (.iload_n 2, 1) := by decide +kernel
theorem dX9_move_24 : decode cX9_move 24 = .ok (.invokevirtual 121, 3) := by decide +kernel
theorem dX9_move_27 : decode cX9_move 27 = .ok (.ifCond .ne 6, 3) := by decide +kernel
theorem dX9_move_30 : decode cX9_move 30 = .ok (.bipush (-2), 2) := by decide +kernel
theorem dX9_move_32 : decode cX9_move 32 = .ok (.ireturn, 1) := by decide +kernel
theorem dX9_move_33 : decode cX9_move 33 = .ok (.aload_n 0, 1) := by decide +kernel
theorem dX9_move_34 : decode cX9_move 34 = .ok (.iload_n 1, 1) := by decide +kernel
theorem dX9_move_35 : decode cX9_move 35 = .ok (.iconst 2, 1) := by decide +kernel
theorem dX9_move_36 : decode cX9_move 36 = .ok (.invokevirtual 56, 3) := by decide +kernel
theorem dX9_move_39 : decode cX9_move 39 = .ok (.istore_n 3, 1) := by decide +kernel
theorem dX9_move_40 : decode cX9_move 40 = .ok (.iload_n 3, 1) := by decide +kernel
theorem dX9_move_41 : decode cX9_move 41 = .ok (.iload_n 2, 1) := by decide +kernel
theorem dX9_move_42 : decode cX9_move 42 = .ok (.if_icmp .ne 6, 3) := by decide +kernel
theorem dX9_move_45 : decode cX9_move 45 = .ok (.bipush (-5), 2) := by decide +kernel
theorem dX9_move_47 : decode cX9_move 47 = .ok (.ireturn, 1) := by decide +kernel
theorem dX9_move_48 : decode cX9_move 48 = .ok (.aload_n 0, 1) := by decide +kernel
theorem dX9_move_49 : decode cX9_move 49 = .ok (.iload_n 1, 1) := by decide +kernel
theorem dX9_move_50 : decode cX9_move 50 = .ok (.invokevirtual 124, 3) := by decide +kernel
theorem dX9_move_53 : decode cX9_move 53 = .ok (.aload_n 0, 1) := by decide +kernel
theorem dX9_move_54 : decode cX9_move 54 = .ok (.aload_n 0, 1) := by decide +kernel
theorem dX9_move_55 : decode cX9_move 55 = .ok (.iload_n 1, 1) := by decide +kernel
theorem dX9_move_56 : decode cX9_move 56 = .ok (.iconst 0, 1) := by decide +kernel
theorem dX9_move_57 : decode cX9_move 57 = .ok (.invokevirtual 56, 3) := by decide +kernel
theorem dX9_move_60 : decode cX9_move 60 = .ok (.aload_n 0, 1) := by decide +kernel
theorem dX9_move_61 : decode cX9_move 61 = .ok (.iload_n 1, 1) := by decide +kernel
theorem dX9_move_62 : decode cX9_move 62 = .ok (.iconst 1, 1) := by decide +kernel
theorem dX9_move_63 : decode cX9_move 63 = .ok (.invokevirtual 56, 3) := by decide +kernel
theorem dX9_move_66 : decode cX9_move 66 = .ok (.iload_n 2, 1) := by decide +kernel
theorem dX9_move_67 : decode cX9_move 67 = .ok (.iload_n 1, 1) := by decide +kernel
theorem dX9_move_68 : decode cX9_move 68 = .ok (.invokevirtual 100, 3) := by decide +kernel
theorem dX9_move_71 : decode cX9_move 71 = .ok (.istore 4, 2) := by decide +kernel
theorem dX9_move_73 : decode cX9_move 73 = .ok (.iload 4, 2) := by decide +kernel
theorem dX9_move_75 : decode cX9_move 75 = .ok (.ifCond .eq 17, 3) := by decide +kernel
theorem dX9_move_78 : decode cX9_move 78 = .ok (.iload 4, 2) := by decide +kernel
theorem dX9_move_80 : decode cX9_move 80 = .ok (.iconst 1, 1) := by decide +kernel
theorem dX9_move_81 : decode cX9_move 81 = .ok (.if_icmp .ne 8, 3) := by decide +kernel
theorem dX9_move_84 : decode cX9_move 84 = .ok (.bipush (-6), 2) := by decide +kernel
theorem dX9_move_86 : decode cX9_move 86 = .ok (.goto 5, 3) := by decide +kernel
theorem dX9_move_89 : decode cX9_move 89 = .ok (.bipush (-7), 2) := by decide +kernel
theorem dX9_move_91 : decode cX9_move 91 = .ok (.ireturn, 1) := by decide +kernel
theorem dX9_move_92 : decode cX9_move 92 = .ok (.aload_n 0, 1) := by decide +kernel
theorem dX9_move_93 : decode cX9_move 93 = .ok (.invokevirtual 107, 3) := by decide +kernel
theorem dX9_move_96 : decode cX9_move 96 = .ok (.aload_n 0, 1) := by decide +kernel
theorem dX9_move_97 : decode cX9_move 97 = .ok (.iload_n 1, 1) := by decide +kernel
theorem dX9_move_98 : decode cX9_move 98 = .ok (.iconst 2, 1) := by decide +kernel
theorem dX9_move_99 : decode cX9_move 99 = .ok (.iload_n 2, 1) := by decide +kernel
theorem dX9_move_100 : decode cX9_move 100 = .ok (.invokevirtual 103, 3) := by decide +kernel
theorem dX9_move_103 : decode cX9_move 103 = .ok (.iload_n 3, 1) := by decide +kernel
theorem dX9_move_104 : decode cX9_move 104 = .ok (.ireturn, 1) := by decide +kernel
abbrev rX9_move : Room := { frames := 5, cells := 0, slots := 0, locals := 117 }
set_option maxRecDepth 20000 in
theorem c_X9_move (l : Launch) (y : Cy) (hy : Inj y) (p1 : Int32) (p2 : Int32) (M : Mem) : CT l y yX9_move cX9_move 5 (some .int) rX9_move [.ref (y.2.1 143), .int p1, .int p2] M (d_X9_move p1 p2 M) := by
  refine CT_of (by decide) hy (Nat.le_of_ble_eq_true rfl) (fun x hxl h => ?_)
  show G x y 0 [(0, .ref (y.2.1 143)), (1, .int p1), (2, .int p2)] [] M _
  unfold d_X9_move
  refine G_aload_n (pc := 0) h.1 dX9_move_0 rfl 0 rfl ?_
  refine G_iload_n (pc := 1) h.1 dX9_move_1 rfl 1 rfl ?_
  refine G_callV (pc := 2) (As := [.int p1]) (rest := []) h.1 h.2.2.1 lk_X9_138 lN143 (eM143 _) rfl rfl (c_X9_noBooking x.1.2.1 y hy p1 M) rfl rfl (Nat.le_of_ble_eq_true rfl) ⟨rfl, rfl, Nat.le_of_ble_eq_true rfl, Nat.le_of_ble_eq_true rfl⟩ dX9_move_2 (fun r2 M1 => ?_)
  refine G_if_eq (pc := 5) (tgt := 10) h.1 dX9_move_5 (by decide) ?_ ?_
  · refine G_aload_n (pc := 10) h.1 dX9_move_10 rfl 0 rfl ?_
    refine G_iload_n (pc := 11) h.1 dX9_move_11 rfl 1 rfl ?_
    refine G_iconst (pc := 12) (v := (3)) h.1 dX9_move_12 (by decide) ?_
    refine G_callV (pc := 13) (As := [.int p1, .int (3 : Int32)]) (rest := []) h.1 h.2.2.1 lk_X9_56 lN143 (eM143 _) rfl rfl (c_X9_of x.1.2.1 y hy p1 (3 : Int32) M1) rfl rfl (Nat.le_of_ble_eq_true rfl) ⟨rfl, rfl, Nat.le_of_ble_eq_true rfl, Nat.le_of_ble_eq_true rfl⟩ dX9_move_13 (fun r4 M3 => ?_)
    refine G_if_eq (pc := 16) (tgt := 22) h.1 dX9_move_16 (by decide) ?_ ?_
    · refine G_aload_n (pc := 22) h.1 dX9_move_22 rfl 0 rfl ?_
      refine G_iload_n (pc := 23) h.1 dX9_move_23 rfl 2 rfl ?_
      refine G_callV (pc := 24) (As := [.int p2]) (rest := []) h.1 h.2.2.1 lk_X9_121 lN143 (eM143 _) rfl rfl (c_X9_isStart x.1.2.1 y hy p2 M3) rfl rfl (Nat.le_of_ble_eq_true rfl) ⟨rfl, rfl, Nat.le_of_ble_eq_true rfl, Nat.le_of_ble_eq_true rfl⟩ dX9_move_24 (fun r6 M5 => ?_)
      refine G_if_ne (pc := 27) (tgt := 33) h.1 dX9_move_27 (by decide) ?_ ?_
      · refine G_aload_n (pc := 33) h.1 dX9_move_33 rfl 0 rfl ?_
        refine G_iload_n (pc := 34) h.1 dX9_move_34 rfl 1 rfl ?_
        refine G_iconst (pc := 35) (v := (2)) h.1 dX9_move_35 (by decide) ?_
        refine G_callV (pc := 36) (As := [.int p1, .int (2 : Int32)]) (rest := []) h.1 h.2.2.1 lk_X9_56 lN143 (eM143 _) rfl rfl (c_X9_of x.1.2.1 y hy p1 (2 : Int32) M5) rfl rfl (Nat.le_of_ble_eq_true rfl) ⟨rfl, rfl, Nat.le_of_ble_eq_true rfl, Nat.le_of_ble_eq_true rfl⟩ dX9_move_36 (fun r8 M7 => ?_)
        refine G_istore_n (pc := 39) h.1 h.2.1 [(3, .int r8), (0, .ref (y.2.1 143)), (1, .int p1), (2, .int p2)] dX9_move_39 rfl (by decide) rfl ?_
        refine G_iload_n (pc := 40) h.1 dX9_move_40 rfl 0 rfl ?_
        refine G_iload_n (pc := 41) h.1 dX9_move_41 rfl 3 rfl ?_
        refine G_icmp_ne (pc := 42) (tgt := 48) h.1 dX9_move_42 (by decide) ?_ ?_
        · refine G_aload_n (pc := 48) h.1 dX9_move_48 rfl 1 rfl ?_
          refine G_iload_n (pc := 49) h.1 dX9_move_49 rfl 2 rfl ?_
          refine G_callVv (pc := 50) (As := [.int p1]) (rest := []) h.1 h.2.2.1 lk_X9_124 lN143 (eM143 _) rfl rfl (c_X9_bases x.1.2.1 y hy p1 M7) rfl rfl (Nat.le_of_ble_eq_true rfl) ⟨rfl, rfl, Nat.le_of_ble_eq_true rfl, Nat.le_of_ble_eq_true rfl⟩ dX9_move_50 (fun r10 M9 => ?_)
          refine G_aload_n (pc := 53) h.1 dX9_move_53 rfl 1 rfl ?_
          refine G_aload_n (pc := 54) h.1 dX9_move_54 rfl 1 rfl ?_
          refine G_iload_n (pc := 55) h.1 dX9_move_55 rfl 2 rfl ?_
          refine G_iconst (pc := 56) (v := (0)) h.1 dX9_move_56 (by decide) ?_
          refine G_callV (pc := 57) (As := [.int p1, .int (0 : Int32)]) (rest := [.ref (y.2.1 143)]) h.1 h.2.2.1 lk_X9_56 lN143 (eM143 _) rfl rfl (c_X9_of x.1.2.1 y hy p1 (0 : Int32) M9) rfl rfl (Nat.le_of_ble_eq_true rfl) ⟨rfl, rfl, Nat.le_of_ble_eq_true rfl, Nat.le_of_ble_eq_true rfl⟩ dX9_move_57 (fun r12 M11 => ?_)
          refine G_aload_n (pc := 60) h.1 dX9_move_60 rfl 1 rfl ?_
          refine G_iload_n (pc := 61) h.1 dX9_move_61 rfl 2 rfl ?_
          refine G_iconst (pc := 62) (v := (1)) h.1 dX9_move_62 (by decide) ?_
          refine G_callV (pc := 63) (As := [.int p1, .int (1 : Int32)]) (rest := [.int r12, .ref (y.2.1 143)]) h.1 h.2.2.1 lk_X9_56 lN143 (eM143 _) rfl rfl (c_X9_of x.1.2.1 y hy p1 (1 : Int32) M11) rfl rfl (Nat.le_of_ble_eq_true rfl) ⟨rfl, rfl, Nat.le_of_ble_eq_true rfl, Nat.le_of_ble_eq_true rfl⟩ dX9_move_63 (fun r14 M13 => ?_)
          refine G_iload_n (pc := 66) h.1 dX9_move_66 rfl 3 rfl ?_
          refine G_iload_n (pc := 67) h.1 dX9_move_67 rfl 2 rfl ?_
          refine G_callV (pc := 68) (As := [.int r12, .int r14, .int p2, .int p1]) (rest := []) h.1 h.2.2.1 lk_X9_100 lN143 (eM143 _) rfl rfl (c_X9_reason x.1.2.1 y hy r12 r14 p2 p1 M13) rfl rfl (Nat.le_of_ble_eq_true rfl) ⟨rfl, rfl, Nat.le_of_ble_eq_true rfl, Nat.le_of_ble_eq_true rfl⟩ dX9_move_68 (fun r16 M15 => ?_)
          refine G_istore (pc := 71) h.1 h.2.1 [(4, .int r16), (3, .int r8), (0, .ref (y.2.1 143)), (1, .int p1), (2, .int p2)] dX9_move_71 (by decide) rfl ?_
          refine G_iload (pc := 73) h.1 dX9_move_73 0 rfl ?_
          refine G_if_eq (pc := 75) (tgt := 92) h.1 dX9_move_75 (by decide) ?_ ?_
          · refine G_aload_n (pc := 92) h.1 dX9_move_92 rfl 2 rfl ?_
            refine G_callVv (pc := 93) (As := []) (rest := []) h.1 h.2.2.1 lk_X9_107 lN143 (eM143 _) rfl rfl (c_X9_record x.1.2.1 y hy M15) rfl rfl (Nat.le_of_ble_eq_true rfl) ⟨rfl, rfl, Nat.le_of_ble_eq_true rfl, Nat.le_of_ble_eq_true rfl⟩ dX9_move_93 (fun r18 M17 => ?_)
            refine G_aload_n (pc := 96) h.1 dX9_move_96 rfl 2 rfl ?_
            refine G_iload_n (pc := 97) h.1 dX9_move_97 rfl 3 rfl ?_
            refine G_iconst (pc := 98) (v := (2)) h.1 dX9_move_98 (by decide) ?_
            refine G_iload_n (pc := 99) h.1 dX9_move_99 rfl 4 rfl ?_
            refine G_callVv (pc := 100) (As := [.int p1, .int (2 : Int32), .int p2]) (rest := []) h.1 h.2.2.1 lk_X9_103 lN143 (eM143 _) rfl rfl (c_X9_puts x.1.2.1 y hy p1 (2 : Int32) p2 M17) rfl rfl (Nat.le_of_ble_eq_true rfl) ⟨rfl, rfl, Nat.le_of_ble_eq_true rfl, Nat.le_of_ble_eq_true rfl⟩ dX9_move_100 (fun r20 M19 => ?_)
            refine G_iload_n (pc := 103) h.1 dX9_move_103 rfl 1 rfl ?_
            exact G_ret (pc := 104) h rfl dX9_move_104
          · refine G_iload (pc := 78) h.1 dX9_move_78 0 rfl ?_
            refine G_iconst (pc := 80) (v := (1)) h.1 dX9_move_80 (by decide) ?_
            refine G_icmp_ne (pc := 81) (tgt := 89) h.1 dX9_move_81 (by decide) ?_ ?_
            · refine G_bipush (pc := 89) (v := (-7)) h.1 dX9_move_89 (by decide) ?_
              exact G_ret (pc := 91) h rfl dX9_move_91
            · refine G_bipush (pc := 84) (v := (-6)) h.1 dX9_move_84 (by decide) ?_
              refine G_goto (pc := 86) (tgt := 91) h.1 dX9_move_86 (by decide) ?_
              exact G_ret (pc := 91) h rfl dX9_move_91
        · refine G_bipush (pc := 45) (v := (-5)) h.1 dX9_move_45 (by decide) ?_
          exact G_ret (pc := 47) h rfl dX9_move_47
      · refine G_bipush (pc := 30) (v := (-2)) h.1 dX9_move_30 (by decide) ?_
        exact G_ret (pc := 32) h rfl dX9_move_32
    · refine G_bipush (pc := 19) (v := (-4)) h.1 dX9_move_19 (by decide) ?_
      exact G_ret (pc := 21) h rfl dX9_move_21
  · refine G_iconst (pc := 8) (v := (-1)) h.1 dX9_move_8 (by decide) ?_
    exact G_ret (pc := 9) h rfl dX9_move_9
theorem dX9_sick_0 : decode cX9_sick 0 = .ok (.aload_n 0, 1) := by decide +kernel
theorem dX9_sick_1 : decode cX9_sick 1 = .ok (.invokevirtual 87, 3) := by decide +kernel
theorem dX9_sick_4 : decode cX9_sick 4 = .ok (.iconst 0, 1) := by decide +kernel
theorem dX9_sick_5 : decode cX9_sick 5 = .ok (.istore_n 1, 1) := by decide +kernel
theorem dX9_sick_6 : decode cX9_sick 6 = .ok (.iload_n 1, 1) := by decide +kernel
theorem dX9_sick_7 : decode cX9_sick 7 = .ok (.aload_n 0, 1) := by decide +kernel
theorem dX9_sick_8 : decode cX9_sick 8 = .ok (.getfield 7, 3) := by decide +kernel
theorem dX9_sick_11 : decode cX9_sick 11 = .ok (.iconst 5, 1) := by decide +kernel
theorem dX9_sick_12 : decode cX9_sick 12 = .ok (.iaload, 1) := by decide +kernel
theorem dX9_sick_13 : decode cX9_sick 13 = .ok (.if_icmp .ge 38, 3) := by decide +kernel
theorem dX9_sick_16 : decode cX9_sick 16 = .ok (.aload_n 0, 1) := by decide +kernel
theorem dX9_sick_17 : decode cX9_sick 17 = .ok (.iload_n 1, 1) := by decide +kernel
theorem dX9_sick_18 : decode cX9_sick 18 = .ok (.iconst 3, 1) := by decide +kernel
theorem dX9_sick_19 : decode cX9_sick 19 = .ok (.invokevirtual 56, 3) := by decide +kernel
theorem dX9_sick_22 : decode cX9_sick 22 = .ok (.ifCond .ne 23, 3) := by decide +kernel
theorem dX9_sick_25 : decode cX9_sick 25 = .ok (.aload_n 0, 1) := by decide +kernel
theorem dX9_sick_26 : decode cX9_sick 26 = .ok (.getfield 25, 3) := by decide +kernel
theorem dX9_sick_29 : decode cX9_sick 29 = .ok (.iload_n 1, 1) := by decide +kernel
theorem dX9_sick_30 : decode cX9_sick 30 = .ok (.iaload, 1) := by decide +kernel
theorem dX9_sick_31 : decode cX9_sick 31 = .ok (.ifCond .le 14, 3) := by decide +kernel
theorem dX9_sick_34 : decode cX9_sick 34 = .ok (.aload_n 0, 1) := by decide +kernel
theorem dX9_sick_35 : decode cX9_sick 35 = .ok (.getfield 44, 3) := by decide +kernel
theorem dX9_sick_38 : decode cX9_sick 38 = .ok (.iload_n 1, 1) := by decide +kernel
theorem dX9_sick_39 : decode cX9_sick 39 = .ok (.baload, 1) := by decide +kernel
theorem dX9_sick_40 : decode cX9_sick 40 = .ok (.ifCond .ne 5, 3) := by decide +kernel
theorem dX9_sick_43 : decode cX9_sick 43 = .ok (.iload_n 1, 1) := by decide +kernel
theorem dX9_sick_44 : decode cX9_sick 44 = .ok (.ireturn, 1) := by decide +kernel
theorem dX9_sick_45 : decode cX9_sick 45 = .ok (.iinc 1 1, 3) := by decide +kernel
theorem dX9_sick_48 : decode cX9_sick 48 = .ok (.goto (-42), 3) := by decide +kernel
theorem dX9_sick_51 : decode cX9_sick 51 = .ok (.bipush (-5), 2) := by decide +kernel
theorem dX9_sick_53 : decode cX9_sick 53 = .ok (.ireturn, 1) := by decide +kernel
abbrev rX9_sick : Room := { frames := 4, cells := 0, slots := 0, locals := 91 }
set_option maxRecDepth 20000 in
theorem gd_X9_sick_B45 {x : Cx} {y : Cy} (hy : Inj y) (h : OkM x y cX9_sick RX9 2 (some .int) rX9_sick) (kx1 : Mem → Ans) (kb : Int32 → Mem → Ans) (a1 : Int32) (hx1 : ∀ M0 : Mem, G x y 51 [] [] M0 (kx1 M0)) (hb : ∀ (b1 : Int32), ∀ M0 : Mem, G x y 6 [(0, .ref (y.2.1 143)), (1, .int b1)] [] M0 (kb b1 M0)) (M : Mem) : G x y 45 [(0, .ref (y.2.1 143)), (1, .int a1)] [] M (d_X9_sick_B45 kx1 kb a1 M) := by
  unfold d_X9_sick_B45
  refine G_iinc (pc := 45) (v := a1 + (1)) h.1 h.2.1 (fun v5 => [(1, .int v5), (0, .ref (y.2.1 143))]) dX9_sick_45 (by decide) 1 rfl rfl (fun _ => rfl) (fun v5 => ?_)
  refine G_goto (pc := 48) (tgt := 6) h.1 dX9_sick_48 (by decide) ?_
  exact G_sub [1, 0] rfl (hb v5 M)
set_option maxRecDepth 20000 in
theorem gd_X9_sick_L6_body {x : Cx} {y : Cy} (hy : Inj y) (h : OkM x y cX9_sick RX9 2 (some .int) rX9_sick) (kx1 : Mem → Ans) (hx1 : ∀ M0 : Mem, G x y 51 [] [] M0 (kx1 M0)) (kb : Int32 → Mem → Ans) (hb : ∀ (b1 : Int32), ∀ M0 : Mem, G x y 6 [(0, .ref (y.2.1 143)), (1, .int b1)] [] M0 (kb b1 M0)) (a1 : Int32) (M : Mem) : G x y 6 [(0, .ref (y.2.1 143)), (1, .int a1)] [] M (d_X9_sick_L6_body kx1 kb a1 M) := by
  unfold d_X9_sick_L6_body
  refine G_iload_n (pc := 6) h.1 dX9_sick_6 rfl 1 rfl ?_
  refine G_aload_n (pc := 7) h.1 dX9_sick_7 rfl 0 rfl ?_
  refine G_get (pc := 8) (v := .ref (y.2.1 144)) h.1 fl_X9_7 lN143 (eM143 _) rfl dX9_sick_8 ?_
  refine G_iconst (pc := 11) (v := (5)) h.1 dX9_sick_11 (by decide) ?_
  refine G_iald (pc := 12) h.1 lN144 (eM144 _) dX9_sick_12 ?_
  refine G_icmp_ge (pc := 13) (tgt := 51) h.1 dX9_sick_13 (by decide) ?_ ?_
  · exact G_sub [] rfl (hx1 M)
  · refine G_aload_n (pc := 16) h.1 dX9_sick_16 rfl 0 rfl ?_
    refine G_iload_n (pc := 17) h.1 dX9_sick_17 rfl 1 rfl ?_
    refine G_iconst (pc := 18) (v := (3)) h.1 dX9_sick_18 (by decide) ?_
    refine G_callV (pc := 19) (As := [.int a1, .int (3 : Int32)]) (rest := []) h.1 h.2.2.1 lk_X9_56 lN143 (eM143 _) rfl rfl (c_X9_of x.1.2.1 y hy a1 (3 : Int32) M) rfl rfl (Nat.le_of_ble_eq_true rfl) ⟨rfl, rfl, Nat.le_of_ble_eq_true rfl, Nat.le_of_ble_eq_true rfl⟩ dX9_sick_19 (fun r4 M3 => ?_)
    refine G_if_ne (pc := 22) (tgt := 45) h.1 dX9_sick_22 (by decide) ?_ ?_
    · exact G_sub [0, 1] rfl (gd_X9_sick_B45 hy h kx1 kb a1 hx1 hb M3)
    · refine G_aload_n (pc := 25) h.1 dX9_sick_25 rfl 0 rfl ?_
      refine G_get (pc := 26) (v := .ref (y.2.1 149)) h.1 fl_X9_25 lN143 (eM143 _) rfl dX9_sick_26 ?_
      refine G_iload_n (pc := 29) h.1 dX9_sick_29 rfl 1 rfl ?_
      refine G_iald (pc := 30) h.1 lN149 (eM149 _) dX9_sick_30 ?_
      refine G_if_le (pc := 31) (tgt := 45) h.1 dX9_sick_31 (by decide) ?_ ?_
      · exact G_sub [0, 1] rfl (gd_X9_sick_B45 hy h kx1 kb a1 hx1 hb M3)
      · refine G_aload_n (pc := 34) h.1 dX9_sick_34 rfl 0 rfl ?_
        refine G_get (pc := 35) (v := .ref (y.2.1 152)) h.1 fl_X9_44 lN143 (eM143 _) rfl dX9_sick_35 ?_
        refine G_iload_n (pc := 38) h.1 dX9_sick_38 rfl 1 rfl ?_
        refine G_zald (pc := 39) h.1 lN152 (eM152 _) dX9_sick_39 ?_
        refine G_if_ne (pc := 40) (tgt := 45) h.1 dX9_sick_40 (by decide) ?_ ?_
        · exact G_sub [0, 1] rfl (gd_X9_sick_B45 hy h kx1 kb a1 hx1 hb M3)
        · refine G_iload_n (pc := 43) h.1 dX9_sick_43 rfl 1 rfl ?_
          exact G_ret (pc := 44) h rfl dX9_sick_44
set_option maxRecDepth 20000 in
theorem gd_X9_sick_L6 {x : Cx} {y : Cy} (hy : Inj y) (h : OkM x y cX9_sick RX9 2 (some .int) rX9_sick) (kx1 : Mem → Ans) (hx1 : ∀ M0 : Mem, G x y 51 [] [] M0 (kx1 M0)) : ∀ (n : Nat) (a1 : Int32) (M : Mem), G x y 6 [(0, .ref (y.2.1 143)), (1, .int a1)] [] M (d_X9_sick_L6 kx1 n a1 M) := by
  intro n
  induction n with
  | zero => intro a1 M; exact G_none
  | succ n ih => intro a1 M; exact gd_X9_sick_L6_body hy h kx1 hx1 _ ih a1 M
set_option maxRecDepth 20000 in
theorem c_X9_sick (l : Launch) (y : Cy) (hy : Inj y) (M : Mem) : CT l y yX9_sick cX9_sick 2 (some .int) rX9_sick [.ref (y.2.1 143)] M (d_X9_sick M) := by
  refine CT_of (by decide) hy (Nat.le_of_ble_eq_true rfl) (fun x hxl h => ?_)
  show G x y 0 [(0, .ref (y.2.1 143))] [] M _
  unfold d_X9_sick
  refine G_aload_n (pc := 0) h.1 dX9_sick_0 rfl 0 rfl ?_
  refine G_callVv (pc := 1) (As := []) (rest := []) h.1 h.2.2.1 lk_X9_87 lN143 (eM143 _) rfl rfl (c_X9_forecast x.1.2.1 y hy M) rfl rfl (Nat.le_of_ble_eq_true rfl) ⟨rfl, rfl, Nat.le_of_ble_eq_true rfl, Nat.le_of_ble_eq_true rfl⟩ dX9_sick_1 (fun r2 M1 => ?_)
  refine G_iconst (pc := 4) (v := (0)) h.1 dX9_sick_4 (by decide) ?_
  refine G_istore_n (pc := 5) h.1 h.2.1 [(1, .int (0 : Int32)), (0, .ref (y.2.1 143))] dX9_sick_5 rfl (by decide) rfl ?_
  refine G_sub [1, 0] rfl (gd_X9_sick_L6 hy h _ (fun M6 => ?_) fuelN (0 : Int32) M1)
  refine G_bipush (pc := 51) (v := (-5)) h.1 dX9_sick_51 (by decide) ?_
  exact G_ret (pc := 53) h rfl dX9_sick_53
theorem dX9_repair_0 : decode cX9_repair 0 = .ok (.iconst 0, 1) := by decide +kernel
theorem dX9_repair_1 : decode cX9_repair 1 = .ok (.istore_n 1, 1) := by decide +kernel
theorem dX9_repair_2 : decode cX9_repair 2 = .ok (.iload_n 1, 1) := by decide +kernel
theorem dX9_repair_3 : decode cX9_repair 3 = .ok (.bipush 60, 2) := by decide +kernel
theorem dX9_repair_5 : decode cX9_repair 5 = .ok (.if_icmp .ge 16, 3) := by decide +kernel
theorem dX9_repair_8 : decode cX9_repair 8 = .ok (.aload_n 0, 1) := by decide +kernel
theorem dX9_repair_9 : decode cX9_repair 9 = .ok (.getfield 44, 3) := by decide +kernel
theorem dX9_repair_12 : decode cX9_repair 12 = .ok (.iload_n 1, 1) := by decide +kernel
theorem dX9_repair_13 : decode cX9_repair 13 = .ok (.iconst 0, 1) := by decide +kernel
theorem dX9_repair_14 : decode cX9_repair 14 = .ok (.bastore, 1) := by decide +kernel
theorem dX9_repair_15 : decode cX9_repair 15 = .ok (.iinc 1 1, 3) := by decide +kernel
theorem dX9_repair_18 : decode cX9_repair 18 = .ok (.goto (-16), 3) := by decide +kernel
theorem dX9_repair_21 : decode cX9_repair 21 = .ok (.aload_n 0, 1) := by decide +kernel
theorem dX9_repair_22 : decode cX9_repair 22 = .ok (.invokevirtual 153, 3) := by decide +kernel
theorem dX9_repair_25 : decode cX9_repair 25 = .ok (.istore_n 1, 1) := by decide +kernel
theorem dX9_repair_26 : decode cX9_repair 26 = .ok (.iload_n 1, 1) := by decide +kernel
theorem dX9_repair_27 : decode cX9_repair 27 = .ok (.bipush (-5), 2) := by decide +kernel
theorem dX9_repair_29 : decode cX9_repair 29 = .ok (.if_icmp .ne 6, 3) := by decide +kernel
theorem dX9_repair_32 : decode cX9_repair 32 = .ok (.bipush (-5), 2) := by decide +kernel
theorem dX9_repair_34 : decode cX9_repair 34 = .ok (.ireturn, 1) := by decide +kernel
theorem dX9_repair_35 : decode cX9_repair 35 = .ok (.aload_n 0, 1) := by decide +kernel
theorem dX9_repair_36 : decode cX9_repair 36 = .ok (.invokevirtual 107, 3) := by decide +kernel
theorem dX9_repair_39 : decode cX9_repair 39 = .ok (.iconst 0, 1) := by decide +kernel
theorem dX9_repair_40 : decode cX9_repair 40 = .ok (.istore_n 2, 1) := by decide +kernel
theorem dX9_repair_41 : decode cX9_repair 41 = .ok (.iload_n 1, 1) := by decide +kernel
theorem dX9_repair_42 : decode cX9_repair 42 = .ok (.bipush (-5), 2) := by decide +kernel
theorem dX9_repair_44 : decode cX9_repair 44 = .ok (.if_icmp .eq 84, 3) := by decide +kernel
theorem dX9_repair_47 : decode cX9_repair 47 = .ok (.aload_n 0, 1) := by decide +kernel
theorem dX9_repair_48 : decode cX9_repair 48 = .ok (.iload_n 1, 1) := by decide +kernel
theorem dX9_repair_49 : decode cX9_repair 49 = .ok (.invokevirtual 124, 3) := by decide +kernel
theorem dX9_repair_52 : decode cX9_repair 52 = .ok (.aload_n 0, 1) := by decide +kernel
theorem dX9_repair_53 : decode cX9_repair 53 = .ok (.aload_n 0, 1) := by decide +kernel
theorem dX9_repair_54 : decode cX9_repair 54 = .ok (.iload_n 1, 1) := by decide +kernel
theorem dX9_repair_55 : decode cX9_repair 55 = .ok (.iconst 0, 1) := by decide +kernel
theorem dX9_repair_56 : decode cX9_repair 56 = .ok (.invokevirtual 56, 3) := by decide +kernel
theorem dX9_repair_59 : decode cX9_repair 59 = .ok (.aload_n 0, 1) := by decide +kernel
theorem dX9_repair_60 : decode cX9_repair 60 = .ok (.iload_n 1, 1) := by decide +kernel
theorem dX9_repair_61 : decode cX9_repair 61 = .ok (.iconst 1, 1) := by decide +kernel
theorem dX9_repair_62 : decode cX9_repair 62 = .ok (.invokevirtual 56, 3) := by decide +kernel
theorem dX9_repair_65 : decode cX9_repair 65 = .ok (.aload_n 0, 1) := by decide +kernel
theorem dX9_repair_66 : decode cX9_repair 66 = .ok (.iload_n 1, 1) := by decide +kernel
theorem dX9_repair_67 : decode cX9_repair 67 = .ok (.iconst 2, 1) := by decide +kernel
theorem dX9_repair_68 : decode cX9_repair 68 = .ok (.invokevirtual 56, 3) := by decide +kernel
theorem dX9_repair_71 : decode cX9_repair 71 = .ok (.iconst 1, 1) := by decide +kernel
theorem dX9_repair_72 : decode cX9_repair 72 = .ok (.iadd, 1) := by decide +kernel
theorem dX9_repair_73 : decode cX9_repair 73 = .ok (.aload_n 0, 1) := by decide +kernel
theorem dX9_repair_74 : decode cX9_repair 74 = .ok (.getfield 7, 3) := by decide +kernel
theorem dX9_repair_77 : decode cX9_repair 77 = .ok (.iconst 0, 1) := by decide +kernel
theorem dX9_repair_78 : decode cX9_repair 78 = .ok (.iaload, 1) := by decide +kernel
theorem dX9_repair_79 : decode cX9_repair 79 = .ok (.bipush 60, 2) := by decide +kernel
theorem dX9_repair_81 : decode cX9_repair 81 = .ok (.iadd, 1) := by decide +kernel
theorem dX9_repair_82 : decode cX9_repair 82 = .ok (.iload_n 1, 1) := by decide +kernel
theorem dX9_repair_83 : decode cX9_repair 83 = .ok (.invokevirtual 134, 3) := by decide +kernel
theorem dX9_repair_86 : decode cX9_repair 86 = .ok (.istore_n 3, 1) := by decide +kernel
theorem dX9_repair_87 : decode cX9_repair 87 = .ok (.iload_n 3, 1) := by decide +kernel
theorem dX9_repair_88 : decode cX9_repair 88 = .ok (.bipush (-5), 2) := by decide +kernel
theorem dX9_repair_90 : decode cX9_repair 90 = .ok (.if_icmp .ne 13, 3) := by decide +kernel
theorem dX9_repair_93 : decode cX9_repair 93 = .ok (.aload_n 0, 1) := by decide +kernel
theorem dX9_repair_94 : decode cX9_repair 94 = .ok (.iload_n 1, 1) := by decide +kernel
theorem dX9_repair_95 : decode cX9_repair 95 = .ok (.iconst 3, 1) := by decide +kernel
theorem dX9_repair_96 : decode cX9_repair 96 = .ok (.iconst 4, 1) := by decide +kernel
theorem dX9_repair_97 : decode cX9_repair 97 = .ok (.invokevirtual 103, 3) := by decide +kernel
theorem dX9_repair_100 : decode cX9_repair 100 = .ok (.goto 13, 3) := by decide +kernel
theorem dX9_repair_103 : decode cX9_repair 103 = .ok (.aload_n 0, 1) := by decide +kernel
theorem dX9_repair_104 : decode cX9_repair 104 = .ok (.iload_n 1, 1) := by decide +kernel
theorem dX9_repair_105 : decode cX9_repair 105 = .ok (.iconst 2, 1) := by decide +kernel
theorem dX9_repair_106 : decode cX9_repair 106 = .ok (.iload_n 3, 1) := by decide +kernel
theorem dX9_repair_107 : decode cX9_repair 107 = .ok (.invokevirtual 103, 3) := by decide +kernel
theorem dX9_repair_110 : decode cX9_repair 110 = .ok (.iinc 2 1, 3) := by decide +kernel
theorem dX9_repair_113 : decode cX9_repair 113 = .ok (.aload_n 0, 1) := by decide +kernel
theorem dX9_repair_114 : decode cX9_repair 114 = .ok (.getfield 44, 3) := by decide +kernel
theorem dX9_repair_117 : decode cX9_repair 117 = .ok (.iload_n 1, 1) := by decide +kernel
theorem dX9_repair_118 : decode cX9_repair 118 = .ok (.iconst 1, 1) := by decide +kernel
theorem dX9_repair_119 : decode cX9_repair 119 = .ok (.bastore, 1) := by decide +kernel
theorem dX9_repair_120 : decode cX9_repair 120 = .ok (.aload_n 0, 1) := by decide +kernel
theorem dX9_repair_121 : decode cX9_repair 121 = .ok (.invokevirtual 153, 3) := by decide +kernel
theorem dX9_repair_124 : decode cX9_repair 124 = .ok (.istore_n 1, 1) := by decide +kernel
theorem dX9_repair_125 : decode cX9_repair 125 = .ok (.goto (-84), 3) := by decide +kernel
theorem dX9_repair_128 : decode cX9_repair 128 = .ok (.iload_n 2, 1) := by decide +kernel
theorem dX9_repair_129 : decode cX9_repair 129 = .ok (.ireturn, 1) := by decide +kernel
abbrev rX9_repair : Room := { frames := 6, cells := 0, slots := 0, locals := 145 }
set_option maxRecDepth 20000 in
theorem gd_X9_repair_L2_body {x : Cx} {y : Cy} (hy : Inj y) (h : OkM x y cX9_repair RX9 4 (some .int) rX9_repair) (kx1 : Mem → Ans) (hx1 : ∀ M0 : Mem, G x y 21 [(0, .ref (y.2.1 143))] [] M0 (kx1 M0)) (kb : Int32 → Mem → Ans) (hb : ∀ (b1 : Int32), ∀ M0 : Mem, G x y 2 [(0, .ref (y.2.1 143)), (1, .int b1)] [] M0 (kb b1 M0)) (a1 : Int32) (M : Mem) : G x y 2 [(0, .ref (y.2.1 143)), (1, .int a1)] [] M (d_X9_repair_L2_body kx1 kb a1 M) := by
  unfold d_X9_repair_L2_body
  refine G_iload_n (pc := 2) h.1 dX9_repair_2 rfl 1 rfl ?_
  refine G_bipush (pc := 3) (v := (60)) h.1 dX9_repair_3 (by decide) ?_
  refine G_icmp_ge (pc := 5) (tgt := 21) h.1 dX9_repair_5 (by decide) ?_ ?_
  · exact G_sub [0] rfl (hx1 M)
  · refine G_aload_n (pc := 8) h.1 dX9_repair_8 rfl 0 rfl ?_
    refine G_get (pc := 9) (v := .ref (y.2.1 152)) h.1 fl_X9_44 lN143 (eM143 _) rfl dX9_repair_9 ?_
    refine G_iload_n (pc := 12) h.1 dX9_repair_12 rfl 1 rfl ?_
    refine G_iconst (pc := 13) (v := (0)) h.1 dX9_repair_13 (by decide) ?_
    refine G_zast (pc := 14) h.1 lN152 (fun m => eM152 m) dX9_repair_14 (fun M1 => ?_)
    refine G_iinc (pc := 15) (v := a1 + (1)) h.1 h.2.1 (fun v2 => [(1, .int v2), (0, .ref (y.2.1 143))]) dX9_repair_15 (by decide) 1 rfl rfl (fun _ => rfl) (fun v2 => ?_)
    refine G_goto (pc := 18) (tgt := 2) h.1 dX9_repair_18 (by decide) ?_
    exact G_sub [1, 0] rfl (hb v2 M1)
set_option maxRecDepth 20000 in
theorem gd_X9_repair_L2 {x : Cx} {y : Cy} (hy : Inj y) (h : OkM x y cX9_repair RX9 4 (some .int) rX9_repair) (kx1 : Mem → Ans) (hx1 : ∀ M0 : Mem, G x y 21 [(0, .ref (y.2.1 143))] [] M0 (kx1 M0)) : ∀ (n : Nat) (a1 : Int32) (M : Mem), G x y 2 [(0, .ref (y.2.1 143)), (1, .int a1)] [] M (d_X9_repair_L2 kx1 n a1 M) := by
  intro n
  induction n with
  | zero => intro a1 M; exact G_none
  | succ n ih => intro a1 M; exact gd_X9_repair_L2_body hy h kx1 hx1 _ ih a1 M
set_option maxRecDepth 20000 in
theorem gd_X9_repair_B113 {x : Cx} {y : Cy} (hy : Inj y) (h : OkM x y cX9_repair RX9 4 (some .int) rX9_repair) (kx1 : Int32 → Mem → Ans) (kb : Int32 → Int32 → Mem → Ans) (a1 : Int32) (a2 : Int32) (hx1 : ∀ (b2 : Int32), ∀ M0 : Mem, G x y 128 [(2, .int b2)] [] M0 (kx1 b2 M0)) (hb : ∀ (b1 b2 : Int32), ∀ M0 : Mem, G x y 41 [(0, .ref (y.2.1 143)), (1, .int b1), (2, .int b2)] [] M0 (kb b1 b2 M0)) (M : Mem) : G x y 113 [(0, .ref (y.2.1 143)), (1, .int a1), (2, .int a2)] [] M (d_X9_repair_B113 kx1 kb a1 a2 M) := by
  unfold d_X9_repair_B113
  refine G_aload_n (pc := 113) h.1 dX9_repair_113 rfl 0 rfl ?_
  refine G_get (pc := 114) (v := .ref (y.2.1 152)) h.1 fl_X9_44 lN143 (eM143 _) rfl dX9_repair_114 ?_
  refine G_iload_n (pc := 117) h.1 dX9_repair_117 rfl 1 rfl ?_
  refine G_iconst (pc := 118) (v := (1)) h.1 dX9_repair_118 (by decide) ?_
  refine G_zast (pc := 119) h.1 lN152 (fun m => eM152 m) dX9_repair_119 (fun M21 => ?_)
  refine G_aload_n (pc := 120) h.1 dX9_repair_120 rfl 0 rfl ?_
  refine G_callV (pc := 121) (As := []) (rest := []) h.1 h.2.2.1 lk_X9_153 lN143 (eM143 _) rfl rfl (c_X9_sick x.1.2.1 y hy M21) rfl rfl (Nat.le_of_ble_eq_true rfl) ⟨rfl, rfl, Nat.le_of_ble_eq_true rfl, Nat.le_of_ble_eq_true rfl⟩ dX9_repair_121 (fun r23 M22 => ?_)
  refine G_istore_n (pc := 124) h.1 h.2.1 [(1, .int r23), (0, .ref (y.2.1 143)), (2, .int a2)] dX9_repair_124 rfl (by decide) rfl ?_
  refine G_goto (pc := 125) (tgt := 41) h.1 dX9_repair_125 (by decide) ?_
  exact G_sub [1, 0, 2] rfl (hb r23 a2 M22)
set_option maxRecDepth 20000 in
theorem gd_X9_repair_L41_body {x : Cx} {y : Cy} (hy : Inj y) (h : OkM x y cX9_repair RX9 4 (some .int) rX9_repair) (kx1 : Int32 → Mem → Ans) (hx1 : ∀ (b2 : Int32), ∀ M0 : Mem, G x y 128 [(2, .int b2)] [] M0 (kx1 b2 M0)) (kb : Int32 → Int32 → Mem → Ans) (hb : ∀ (b1 b2 : Int32), ∀ M0 : Mem, G x y 41 [(0, .ref (y.2.1 143)), (1, .int b1), (2, .int b2)] [] M0 (kb b1 b2 M0)) (a1 : Int32) (a2 : Int32) (M : Mem) : G x y 41 [(0, .ref (y.2.1 143)), (1, .int a1), (2, .int a2)] [] M (d_X9_repair_L41_body kx1 kb a1 a2 M) := by
  unfold d_X9_repair_L41_body
  refine G_iload_n (pc := 41) h.1 dX9_repair_41 rfl 1 rfl ?_
  refine G_bipush (pc := 42) (v := (-5)) h.1 dX9_repair_42 (by decide) ?_
  refine G_icmp_eq (pc := 44) (tgt := 128) h.1 dX9_repair_44 (by decide) ?_ ?_
  · exact G_sub [2] rfl (hx1 a2 M)
  · refine G_aload_n (pc := 47) h.1 dX9_repair_47 rfl 0 rfl ?_
    refine G_iload_n (pc := 48) h.1 dX9_repair_48 rfl 1 rfl ?_
    refine G_callVv (pc := 49) (As := [.int a1]) (rest := []) h.1 h.2.2.1 lk_X9_124 lN143 (eM143 _) rfl rfl (c_X9_bases x.1.2.1 y hy a1 M) rfl rfl (Nat.le_of_ble_eq_true rfl) ⟨rfl, rfl, Nat.le_of_ble_eq_true rfl, Nat.le_of_ble_eq_true rfl⟩ dX9_repair_49 (fun r9 M8 => ?_)
    refine G_aload_n (pc := 52) h.1 dX9_repair_52 rfl 0 rfl ?_
    refine G_aload_n (pc := 53) h.1 dX9_repair_53 rfl 0 rfl ?_
    refine G_iload_n (pc := 54) h.1 dX9_repair_54 rfl 1 rfl ?_
    refine G_iconst (pc := 55) (v := (0)) h.1 dX9_repair_55 (by decide) ?_
    refine G_callV (pc := 56) (As := [.int a1, .int (0 : Int32)]) (rest := [.ref (y.2.1 143)]) h.1 h.2.2.1 lk_X9_56 lN143 (eM143 _) rfl rfl (c_X9_of x.1.2.1 y hy a1 (0 : Int32) M8) rfl rfl (Nat.le_of_ble_eq_true rfl) ⟨rfl, rfl, Nat.le_of_ble_eq_true rfl, Nat.le_of_ble_eq_true rfl⟩ dX9_repair_56 (fun r11 M10 => ?_)
    refine G_aload_n (pc := 59) h.1 dX9_repair_59 rfl 0 rfl ?_
    refine G_iload_n (pc := 60) h.1 dX9_repair_60 rfl 1 rfl ?_
    refine G_iconst (pc := 61) (v := (1)) h.1 dX9_repair_61 (by decide) ?_
    refine G_callV (pc := 62) (As := [.int a1, .int (1 : Int32)]) (rest := [.int r11, .ref (y.2.1 143)]) h.1 h.2.2.1 lk_X9_56 lN143 (eM143 _) rfl rfl (c_X9_of x.1.2.1 y hy a1 (1 : Int32) M10) rfl rfl (Nat.le_of_ble_eq_true rfl) ⟨rfl, rfl, Nat.le_of_ble_eq_true rfl, Nat.le_of_ble_eq_true rfl⟩ dX9_repair_62 (fun r13 M12 => ?_)
    refine G_aload_n (pc := 65) h.1 dX9_repair_65 rfl 0 rfl ?_
    refine G_iload_n (pc := 66) h.1 dX9_repair_66 rfl 1 rfl ?_
    refine G_iconst (pc := 67) (v := (2)) h.1 dX9_repair_67 (by decide) ?_
    refine G_callV (pc := 68) (As := [.int a1, .int (2 : Int32)]) (rest := [.int r13, .int r11, .ref (y.2.1 143)]) h.1 h.2.2.1 lk_X9_56 lN143 (eM143 _) rfl rfl (c_X9_of x.1.2.1 y hy a1 (2 : Int32) M12) rfl rfl (Nat.le_of_ble_eq_true rfl) ⟨rfl, rfl, Nat.le_of_ble_eq_true rfl, Nat.le_of_ble_eq_true rfl⟩ dX9_repair_68 (fun r15 M14 => ?_)
    refine G_iconst (pc := 71) (v := (1)) h.1 dX9_repair_71 (by decide) ?_
    refine G_iadd (pc := 72) h.1 dX9_repair_72 ?_
    refine G_aload_n (pc := 73) h.1 dX9_repair_73 rfl 0 rfl ?_
    refine G_get (pc := 74) (v := .ref (y.2.1 144)) h.1 fl_X9_7 lN143 (eM143 _) rfl dX9_repair_74 ?_
    refine G_iconst (pc := 77) (v := (0)) h.1 dX9_repair_77 (by decide) ?_
    refine G_iald (pc := 78) h.1 lN144 (eM144 _) dX9_repair_78 ?_
    refine G_bipush (pc := 79) (v := (60)) h.1 dX9_repair_79 (by decide) ?_
    refine G_iadd (pc := 81) h.1 dX9_repair_81 ?_
    refine G_iload_n (pc := 82) h.1 dX9_repair_82 rfl 1 rfl ?_
    refine G_callV (pc := 83) (As := [.int r11, .int r13, .int (r15 + (1 : Int32)), .int ((M14 144 ((0 : Int32)).toNatClampNeg) + (60 : Int32)), .int a1]) (rest := []) h.1 h.2.2.1 lk_X9_134 lN143 (eM143 _) rfl rfl (c_X9_first x.1.2.1 y hy r11 r13 (r15 + (1 : Int32)) ((M14 144 ((0 : Int32)).toNatClampNeg) + (60 : Int32)) a1 M14) rfl rfl (Nat.le_of_ble_eq_true rfl) ⟨rfl, rfl, Nat.le_of_ble_eq_true rfl, Nat.le_of_ble_eq_true rfl⟩ dX9_repair_83 (fun r17 M16 => ?_)
    refine G_istore_n (pc := 86) h.1 h.2.1 [(3, .int r17), (0, .ref (y.2.1 143)), (1, .int a1), (2, .int a2)] dX9_repair_86 rfl (by decide) rfl ?_
    refine G_iload_n (pc := 87) h.1 dX9_repair_87 rfl 0 rfl ?_
    refine G_bipush (pc := 88) (v := (-5)) h.1 dX9_repair_88 (by decide) ?_
    refine G_icmp_ne (pc := 90) (tgt := 103) h.1 dX9_repair_90 (by decide) ?_ ?_
    · refine G_aload_n (pc := 103) h.1 dX9_repair_103 rfl 1 rfl ?_
      refine G_iload_n (pc := 104) h.1 dX9_repair_104 rfl 2 rfl ?_
      refine G_iconst (pc := 105) (v := (2)) h.1 dX9_repair_105 (by decide) ?_
      refine G_iload_n (pc := 106) h.1 dX9_repair_106 rfl 0 rfl ?_
      refine G_callVv (pc := 107) (As := [.int a1, .int (2 : Int32), .int r17]) (rest := []) h.1 h.2.2.1 lk_X9_103 lN143 (eM143 _) rfl rfl (c_X9_puts x.1.2.1 y hy a1 (2 : Int32) r17 M16) rfl rfl (Nat.le_of_ble_eq_true rfl) ⟨rfl, rfl, Nat.le_of_ble_eq_true rfl, Nat.le_of_ble_eq_true rfl⟩ dX9_repair_107 (fun r19 M18 => ?_)
      refine G_iinc (pc := 110) (v := a2 + (1)) h.1 h.2.1 (fun v20 => [(2, .int v20), (3, .int r17), (0, .ref (y.2.1 143)), (1, .int a1)]) dX9_repair_110 (by decide) 3 rfl rfl (fun _ => rfl) (fun v20 => ?_)
      exact G_sub [2, 3, 0] rfl (gd_X9_repair_B113 hy h kx1 kb a1 v20 hx1 hb M18)
    · refine G_aload_n (pc := 93) h.1 dX9_repair_93 rfl 1 rfl ?_
      refine G_iload_n (pc := 94) h.1 dX9_repair_94 rfl 2 rfl ?_
      refine G_iconst (pc := 95) (v := (3)) h.1 dX9_repair_95 (by decide) ?_
      refine G_iconst (pc := 96) (v := (4)) h.1 dX9_repair_96 (by decide) ?_
      refine G_callVv (pc := 97) (As := [.int a1, .int (3 : Int32), .int (4 : Int32)]) (rest := []) h.1 h.2.2.1 lk_X9_103 lN143 (eM143 _) rfl rfl (c_X9_puts x.1.2.1 y hy a1 (3 : Int32) (4 : Int32) M16) rfl rfl (Nat.le_of_ble_eq_true rfl) ⟨rfl, rfl, Nat.le_of_ble_eq_true rfl, Nat.le_of_ble_eq_true rfl⟩ dX9_repair_97 (fun r25 M24 => ?_)
      refine G_goto (pc := 100) (tgt := 113) h.1 dX9_repair_100 (by decide) ?_
      exact G_sub [1, 2, 3] rfl (gd_X9_repair_B113 hy h kx1 kb a1 a2 hx1 hb M24)
set_option maxRecDepth 20000 in
theorem gd_X9_repair_L41 {x : Cx} {y : Cy} (hy : Inj y) (h : OkM x y cX9_repair RX9 4 (some .int) rX9_repair) (kx1 : Int32 → Mem → Ans) (hx1 : ∀ (b2 : Int32), ∀ M0 : Mem, G x y 128 [(2, .int b2)] [] M0 (kx1 b2 M0)) : ∀ (n : Nat) (a1 : Int32) (a2 : Int32) (M : Mem), G x y 41 [(0, .ref (y.2.1 143)), (1, .int a1), (2, .int a2)] [] M (d_X9_repair_L41 kx1 n a1 a2 M) := by
  intro n
  induction n with
  | zero => intro a1 a2 M; exact G_none
  | succ n ih => intro a1 a2 M; exact gd_X9_repair_L41_body hy h kx1 hx1 _ ih a1 a2 M
set_option maxRecDepth 20000 in
theorem c_X9_repair (l : Launch) (y : Cy) (hy : Inj y) (M : Mem) : CT l y yX9_repair cX9_repair 4 (some .int) rX9_repair [.ref (y.2.1 143)] M (d_X9_repair M) := by
  refine CT_of (by decide) hy (Nat.le_of_ble_eq_true rfl) (fun x hxl h => ?_)
  show G x y 0 [(0, .ref (y.2.1 143))] [] M _
  unfold d_X9_repair
  refine G_iconst (pc := 0) (v := (0)) h.1 dX9_repair_0 (by decide) ?_
  refine G_istore_n (pc := 1) h.1 h.2.1 [(1, .int (0 : Int32)), (0, .ref (y.2.1 143))] dX9_repair_1 rfl (by decide) rfl ?_
  refine G_sub [1, 0] rfl (gd_X9_repair_L2 hy h _ (fun M3 => ?_) fuelN (0 : Int32) M)
  refine G_aload_n (pc := 21) h.1 dX9_repair_21 rfl 0 rfl ?_
  refine G_callV (pc := 22) (As := []) (rest := []) h.1 h.2.2.1 lk_X9_153 lN143 (eM143 _) rfl rfl (c_X9_sick x.1.2.1 y hy M3) rfl rfl (Nat.le_of_ble_eq_true rfl) ⟨rfl, rfl, Nat.le_of_ble_eq_true rfl, Nat.le_of_ble_eq_true rfl⟩ dX9_repair_22 (fun r5 M4 => ?_)
  refine G_istore_n (pc := 25) h.1 h.2.1 [(1, .int r5), (0, .ref (y.2.1 143))] dX9_repair_25 rfl (by decide) rfl ?_
  refine G_iload_n (pc := 26) h.1 dX9_repair_26 rfl 0 rfl ?_
  refine G_bipush (pc := 27) (v := (-5)) h.1 dX9_repair_27 (by decide) ?_
  refine G_icmp_ne (pc := 29) (tgt := 35) h.1 dX9_repair_29 (by decide) ?_ ?_
  · refine G_aload_n (pc := 35) h.1 dX9_repair_35 rfl 1 rfl ?_
    refine G_callVv (pc := 36) (As := []) (rest := []) h.1 h.2.2.1 lk_X9_107 lN143 (eM143 _) rfl rfl (c_X9_record x.1.2.1 y hy M4) rfl rfl (Nat.le_of_ble_eq_true rfl) ⟨rfl, rfl, Nat.le_of_ble_eq_true rfl, Nat.le_of_ble_eq_true rfl⟩ dX9_repair_36 (fun r7 M6 => ?_)
    refine G_iconst (pc := 39) (v := (0)) h.1 dX9_repair_39 (by decide) ?_
    refine G_istore_n (pc := 40) h.1 h.2.1 [(2, .int (0 : Int32)), (1, .int r5), (0, .ref (y.2.1 143))] dX9_repair_40 rfl (by decide) rfl ?_
    refine G_sub [2, 1, 0] rfl (gd_X9_repair_L41 hy h _ (fun v26 M27 => ?_) fuelN r5 (0 : Int32) M6)
    refine G_iload_n (pc := 128) h.1 dX9_repair_128 rfl 0 rfl ?_
    exact G_ret (pc := 129) h rfl dX9_repair_129
  · refine G_bipush (pc := 32) (v := (-5)) h.1 dX9_repair_32 (by decide) ?_
    exact G_ret (pc := 34) h rfl dX9_repair_34
theorem dX9_goes_0 : decode cX9_goes 0 = .ok (.iconst 0, 1) := by decide +kernel
theorem dX9_goes_1 : decode cX9_goes 1 = .ok (.istore_n 1, 1) := by decide +kernel
theorem dX9_goes_2 : decode cX9_goes 2 = .ok (.iload_n 1, 1) := by decide +kernel
theorem dX9_goes_3 : decode cX9_goes 3 = .ok (.sipush 366, 3) := by decide +kernel
theorem dX9_goes_6 : decode cX9_goes 6 = .ok (.if_icmp .ge 21, 3) := by decide +kernel
theorem dX9_goes_9 : decode cX9_goes 9 = .ok (.aload_n 0, 1) := by decide +kernel
theorem dX9_goes_10 : decode cX9_goes 10 = .ok (.getfield 19, 3) := by decide +kernel
theorem dX9_goes_13 : decode cX9_goes 13 = .ok (.iload_n 1, 1) := by decide +kernel
theorem dX9_goes_14 : decode cX9_goes 14 = .ok (.aload_n 0, 1) := by decide +kernel
theorem dX9_goes_15 : decode cX9_goes 15 = .ok (.getfield 7, 3) := by decide +kernel
theorem dX9_goes_18 : decode cX9_goes 18 = .ok (.iload_n 1, 1) := by decide +kernel
theorem dX9_goes_19 : decode cX9_goes 19 = .ok (.iaload, 1) := by decide +kernel
theorem dX9_goes_20 : decode cX9_goes 20 = .ok (.iastore, 1) := by decide +kernel
theorem dX9_goes_21 : decode cX9_goes 21 = .ok (.iinc 1 1, 3) := by decide +kernel
theorem dX9_goes_24 : decode cX9_goes 24 = .ok (.goto (-22), 3) := by decide +kernel
theorem dX9_goes_27 : decode cX9_goes 27 = .ok (.return_, 1) := by decide +kernel
abbrev rX9_goes : Room := { frames := 0, cells := 0, slots := 0, locals := 0 }
set_option maxRecDepth 20000 in
theorem gd_X9_goes_L2_body {x : Cx} {y : Cy} (hy : Inj y) (h : OkM x y cX9_goes RX9 2 none rX9_goes) (kx1 : Mem → Ans) (hx1 : ∀ M0 : Mem, G x y 27 [] [] M0 (kx1 M0)) (kb : Int32 → Mem → Ans) (hb : ∀ (b1 : Int32), ∀ M0 : Mem, G x y 2 [(0, .ref (y.2.1 143)), (1, .int b1)] [] M0 (kb b1 M0)) (a1 : Int32) (M : Mem) : G x y 2 [(0, .ref (y.2.1 143)), (1, .int a1)] [] M (d_X9_goes_L2_body kx1 kb a1 M) := by
  unfold d_X9_goes_L2_body
  refine G_iload_n (pc := 2) h.1 dX9_goes_2 rfl 1 rfl ?_
  refine G_sipush (pc := 3) (v := (366)) h.1 dX9_goes_3 (by decide) ?_
  refine G_icmp_ge (pc := 6) (tgt := 27) h.1 dX9_goes_6 (by decide) ?_ ?_
  · exact G_sub [] rfl (hx1 M)
  · refine G_aload_n (pc := 9) h.1 dX9_goes_9 rfl 0 rfl ?_
    refine G_get (pc := 10) (v := .ref (y.2.1 147)) h.1 fl_X9_19 lN143 (eM143 _) rfl dX9_goes_10 ?_
    refine G_iload_n (pc := 13) h.1 dX9_goes_13 rfl 1 rfl ?_
    refine G_aload_n (pc := 14) h.1 dX9_goes_14 rfl 0 rfl ?_
    refine G_get (pc := 15) (v := .ref (y.2.1 144)) h.1 fl_X9_7 lN143 (eM143 _) rfl dX9_goes_15 ?_
    refine G_iload_n (pc := 18) h.1 dX9_goes_18 rfl 1 rfl ?_
    refine G_iald (pc := 19) h.1 lN144 (eM144 _) dX9_goes_19 ?_
    refine G_iast (pc := 20) h.1 lN147 (fun m => eM147 m) dX9_goes_20 (fun M1 => ?_)
    refine G_iinc (pc := 21) (v := a1 + (1)) h.1 h.2.1 (fun v2 => [(1, .int v2), (0, .ref (y.2.1 143))]) dX9_goes_21 (by decide) 1 rfl rfl (fun _ => rfl) (fun v2 => ?_)
    refine G_goto (pc := 24) (tgt := 2) h.1 dX9_goes_24 (by decide) ?_
    exact G_sub [1, 0] rfl (hb v2 M1)
set_option maxRecDepth 20000 in
theorem gd_X9_goes_L2 {x : Cx} {y : Cy} (hy : Inj y) (h : OkM x y cX9_goes RX9 2 none rX9_goes) (kx1 : Mem → Ans) (hx1 : ∀ M0 : Mem, G x y 27 [] [] M0 (kx1 M0)) : ∀ (n : Nat) (a1 : Int32) (M : Mem), G x y 2 [(0, .ref (y.2.1 143)), (1, .int a1)] [] M (d_X9_goes_L2 kx1 n a1 M) := by
  intro n
  induction n with
  | zero => intro a1 M; exact G_none
  | succ n ih => intro a1 M; exact gd_X9_goes_L2_body hy h kx1 hx1 _ ih a1 M
set_option maxRecDepth 20000 in
theorem c_X9_goes (l : Launch) (y : Cy) (hy : Inj y) (M : Mem) : CT l y yX9_goes cX9_goes 2 none rX9_goes [.ref (y.2.1 143)] M (d_X9_goes M) := by
  refine CT_of (by decide) hy (Nat.le_of_ble_eq_true rfl) (fun x hxl h => ?_)
  show G x y 0 [(0, .ref (y.2.1 143))] [] M _
  unfold d_X9_goes
  refine G_iconst (pc := 0) (v := (0)) h.1 dX9_goes_0 (by decide) ?_
  refine G_istore_n (pc := 1) h.1 h.2.1 [(1, .int (0 : Int32)), (0, .ref (y.2.1 143))] dX9_goes_1 rfl (by decide) rfl ?_
  refine G_sub [1, 0] rfl (gd_X9_goes_L2 hy h _ (fun M3 => ?_) fuelN (0 : Int32) M)
  exact G_vret (pc := 27) h dX9_goes_27
theorem dX9_comes_0 : decode cX9_comes 0 = .ok (.iconst 0, 1) := by decide +kernel
theorem dX9_comes_1 : decode cX9_comes 1 = .ok (.istore_n 1, 1) := by decide +kernel
theorem dX9_comes_2 : decode cX9_comes 2 = .ok (.iload_n 1, 1) := by decide +kernel
theorem dX9_comes_3 : decode cX9_comes 3 = .ok (.sipush 366, 3) := by decide +kernel
theorem dX9_comes_6 : decode cX9_comes 6 = .ok (.if_icmp .ge 21, 3) := by decide +kernel
theorem dX9_comes_9 : decode cX9_comes 9 = .ok (.aload_n 0, 1) := by decide +kernel
theorem dX9_comes_10 : decode cX9_comes 10 = .ok (.getfield 7, 3) := by decide +kernel
theorem dX9_comes_13 : decode cX9_comes 13 = .ok (.iload_n 1, 1) := by decide +kernel
theorem dX9_comes_14 : decode cX9_comes 14 = .ok (.aload_n 0, 1) := by decide +kernel
theorem dX9_comes_15 : decode cX9_comes 15 = .ok (.getfield 19, 3) := by decide +kernel
theorem dX9_comes_18 : decode cX9_comes 18 = .ok (.iload_n 1, 1) := by decide +kernel
theorem dX9_comes_19 : decode cX9_comes 19 = .ok (.iaload, 1) := by decide +kernel
theorem dX9_comes_20 : decode cX9_comes 20 = .ok (.iastore, 1) := by decide +kernel
theorem dX9_comes_21 : decode cX9_comes 21 = .ok (.iinc 1 1, 3) := by decide +kernel
theorem dX9_comes_24 : decode cX9_comes 24 = .ok (.goto (-22), 3) := by decide +kernel
theorem dX9_comes_27 : decode cX9_comes 27 = .ok (.return_, 1) := by decide +kernel
abbrev rX9_comes : Room := { frames := 0, cells := 0, slots := 0, locals := 0 }
set_option maxRecDepth 20000 in
theorem gd_X9_comes_L2_body {x : Cx} {y : Cy} (hy : Inj y) (h : OkM x y cX9_comes RX9 2 none rX9_comes) (kx1 : Mem → Ans) (hx1 : ∀ M0 : Mem, G x y 27 [] [] M0 (kx1 M0)) (kb : Int32 → Mem → Ans) (hb : ∀ (b1 : Int32), ∀ M0 : Mem, G x y 2 [(0, .ref (y.2.1 143)), (1, .int b1)] [] M0 (kb b1 M0)) (a1 : Int32) (M : Mem) : G x y 2 [(0, .ref (y.2.1 143)), (1, .int a1)] [] M (d_X9_comes_L2_body kx1 kb a1 M) := by
  unfold d_X9_comes_L2_body
  refine G_iload_n (pc := 2) h.1 dX9_comes_2 rfl 1 rfl ?_
  refine G_sipush (pc := 3) (v := (366)) h.1 dX9_comes_3 (by decide) ?_
  refine G_icmp_ge (pc := 6) (tgt := 27) h.1 dX9_comes_6 (by decide) ?_ ?_
  · exact G_sub [] rfl (hx1 M)
  · refine G_aload_n (pc := 9) h.1 dX9_comes_9 rfl 0 rfl ?_
    refine G_get (pc := 10) (v := .ref (y.2.1 144)) h.1 fl_X9_7 lN143 (eM143 _) rfl dX9_comes_10 ?_
    refine G_iload_n (pc := 13) h.1 dX9_comes_13 rfl 1 rfl ?_
    refine G_aload_n (pc := 14) h.1 dX9_comes_14 rfl 0 rfl ?_
    refine G_get (pc := 15) (v := .ref (y.2.1 147)) h.1 fl_X9_19 lN143 (eM143 _) rfl dX9_comes_15 ?_
    refine G_iload_n (pc := 18) h.1 dX9_comes_18 rfl 1 rfl ?_
    refine G_iald (pc := 19) h.1 lN147 (eM147 _) dX9_comes_19 ?_
    refine G_iast (pc := 20) h.1 lN144 (fun m => eM144 m) dX9_comes_20 (fun M1 => ?_)
    refine G_iinc (pc := 21) (v := a1 + (1)) h.1 h.2.1 (fun v2 => [(1, .int v2), (0, .ref (y.2.1 143))]) dX9_comes_21 (by decide) 1 rfl rfl (fun _ => rfl) (fun v2 => ?_)
    refine G_goto (pc := 24) (tgt := 2) h.1 dX9_comes_24 (by decide) ?_
    exact G_sub [1, 0] rfl (hb v2 M1)
set_option maxRecDepth 20000 in
theorem gd_X9_comes_L2 {x : Cx} {y : Cy} (hy : Inj y) (h : OkM x y cX9_comes RX9 2 none rX9_comes) (kx1 : Mem → Ans) (hx1 : ∀ M0 : Mem, G x y 27 [] [] M0 (kx1 M0)) : ∀ (n : Nat) (a1 : Int32) (M : Mem), G x y 2 [(0, .ref (y.2.1 143)), (1, .int a1)] [] M (d_X9_comes_L2 kx1 n a1 M) := by
  intro n
  induction n with
  | zero => intro a1 M; exact G_none
  | succ n ih => intro a1 M; exact gd_X9_comes_L2_body hy h kx1 hx1 _ ih a1 M
set_option maxRecDepth 20000 in
theorem c_X9_comes (l : Launch) (y : Cy) (hy : Inj y) (M : Mem) : CT l y yX9_comes cX9_comes 2 none rX9_comes [.ref (y.2.1 143)] M (d_X9_comes M) := by
  refine CT_of (by decide) hy (Nat.le_of_ble_eq_true rfl) (fun x hxl h => ?_)
  show G x y 0 [(0, .ref (y.2.1 143))] [] M _
  unfold d_X9_comes
  refine G_iconst (pc := 0) (v := (0)) h.1 dX9_comes_0 (by decide) ?_
  refine G_istore_n (pc := 1) h.1 h.2.1 [(1, .int (0 : Int32)), (0, .ref (y.2.1 143))] dX9_comes_1 rfl (by decide) rfl ?_
  refine G_sub [1, 0] rfl (gd_X9_comes_L2 hy h _ (fun M3 => ?_) fuelN (0 : Int32) M)
  exact G_vret (pc := 27) h dX9_comes_27
theorem dX9_wish_0 : decode cX9_wish 0 = .ok (.iload_n 1, 1) := by decide +kernel
theorem dX9_wish_1 : decode cX9_wish 1 = .ok (.invokestatic 114, 3) := by decide +kernel
theorem dX9_wish_4 : decode cX9_wish 4 = .ok (.ifCond .ne 11, 3) := by decide +kernel
theorem dX9_wish_7 : decode cX9_wish 7 = .ok (.aload_n 0, 1) := by decide +kernel
theorem dX9_wish_8 : decode cX9_wish 8 = .ok (.iload_n 2, 1) := by decide +kernel
theorem dX9_wish_9 : decode cX9_wish 9 = .ok (.invokevirtual 118, 3) := by decide +kernel
theorem dX9_wish_12 : decode cX9_wish 12 = .ok (.ifCond .eq 5, 3) := by decide +kernel
theorem dX9_wish_15 : decode cX9_wish 15 = .ok (.iconst (-1), 1) := by decide +kernel
theorem dX9_wish_16 : decode cX9_wish 16 = .ok (.ireturn, 1) := by decide +kernel
theorem dX9_wish_17 : decode cX9_wish 17 = .ok (.aload_n 0, 1) := by decide +kernel
theorem dX9_wish_18 : decode cX9_wish 18 = .ok (.iload_n 3, 1) := by decide +kernel
theorem dX9_wish_19 : decode cX9_wish 19 = .ok (.invokevirtual 121, 3) := by decide +kernel
theorem dX9_wish_22 : decode cX9_wish 22 = .ok (.ifCond .ne 6, 3) := by decide +kernel
theorem dX9_wish_25 : decode cX9_wish 25 = .ok (.bipush (-2), 2) := by decide +kernel
theorem dX9_wish_27 : decode cX9_wish 27 = .ok (.ireturn, 1) := by decide +kernel
theorem dX9_wish_28 : decode cX9_wish 28 = .ok (.aload_n 0, 1) := by decide +kernel
theorem dX9_wish_29 : decode cX9_wish 29 = .ok (.invokevirtual 156, 3) := by decide +kernel
theorem dX9_wish_32 : decode cX9_wish 32 = .ok (.aload_n 0, 1) := by decide +kernel
theorem dX9_wish_33 : decode cX9_wish 33 = .ok (.iload_n 1, 1) := by decide +kernel
theorem dX9_wish_34 : decode cX9_wish 34 = .ok (.iload_n 2, 1) := by decide +kernel
theorem dX9_wish_35 : decode cX9_wish 35 = .ok (.iload_n 3, 1) := by decide +kernel
theorem dX9_wish_36 : decode cX9_wish 36 = .ok (.invokevirtual 147, 3) := by decide +kernel
theorem dX9_wish_39 : decode cX9_wish 39 = .ok (.istore 4, 2) := by decide +kernel
theorem dX9_wish_41 : decode cX9_wish 41 = .ok (.iload 4, 2) := by decide +kernel
theorem dX9_wish_43 : decode cX9_wish 43 = .ok (.bipush (-5), 2) := by decide +kernel
theorem dX9_wish_45 : decode cX9_wish 45 = .ok (.if_icmp .ne 18, 3) := by decide +kernel
theorem dX9_wish_48 : decode cX9_wish 48 = .ok (.aload_n 0, 1) := by decide +kernel
theorem dX9_wish_49 : decode cX9_wish 49 = .ok (.getfield 7, 3) := by decide +kernel
theorem dX9_wish_52 : decode cX9_wish 52 = .ok (.bipush 6, 2) := by decide +kernel
theorem dX9_wish_54 : decode cX9_wish 54 = .ok (.iaload, 1) := by decide +kernel
theorem dX9_wish_55 : decode cX9_wish 55 = .ok (.bipush 8, 2) := by decide +kernel
theorem dX9_wish_57 : decode cX9_wish 57 = .ok (.if_icmp .ne 6, 3) := by decide +kernel
theorem dX9_wish_60 : decode cX9_wish 60 = .ok (.bipush (-3), 2) := by decide +kernel
theorem dX9_wish_62 : decode cX9_wish 62 = .ok (.ireturn, 1) := by decide +kernel
theorem dX9_wish_63 : decode cX9_wish 63 = .ok (.aload_n 0, 1) := by decide +kernel
theorem dX9_wish_64 : decode cX9_wish 64 = .ok (.invokevirtual 159, 3) := by decide +kernel
theorem dX9_wish_67 : decode cX9_wish 67 = .ok (.aload_n 0, 1) := by decide +kernel
theorem dX9_wish_68 : decode cX9_wish 68 = .ok (.invokevirtual 107, 3) := by decide +kernel
theorem dX9_wish_71 : decode cX9_wish 71 = .ok (.aload_n 0, 1) := by decide +kernel
theorem dX9_wish_72 : decode cX9_wish 72 = .ok (.iload_n 1, 1) := by decide +kernel
theorem dX9_wish_73 : decode cX9_wish 73 = .ok (.iload_n 2, 1) := by decide +kernel
theorem dX9_wish_74 : decode cX9_wish 74 = .ok (.iload_n 3, 1) := by decide +kernel
theorem dX9_wish_75 : decode cX9_wish 75 = .ok (.invokevirtual 147, 3) := by decide +kernel
theorem dX9_wish_78 : decode cX9_wish 78 = .ok (.bipush (-5), 2) := by decide +kernel
theorem dX9_wish_80 : decode cX9_wish 80 = .ok (.if_icmp .eq 6, 3) := by decide +kernel
theorem dX9_wish_83 : decode cX9_wish 83 = .ok (.iload 4, 2) := by decide +kernel
theorem dX9_wish_85 : decode cX9_wish 85 = .ok (.ireturn, 1) := by decide +kernel
theorem dX9_wish_86 : decode cX9_wish 86 = .ok (.sipush 342, 3) := by decide +kernel
theorem dX9_wish_89 : decode cX9_wish 89 = .ok (.iconst 3, 1) := by decide +kernel
theorem dX9_wish_90 : decode cX9_wish 90 = .ok (.aload_n 0, 1) := by decide +kernel
theorem dX9_wish_91 : decode cX9_wish 91 = .ok (.getfield 7, 3) := by decide +kernel
theorem dX9_wish_94 : decode cX9_wish 94 = .ok (.bipush 6, 2) := by decide +kernel
theorem dX9_wish_96 : decode cX9_wish 96 = .ok (.iaload, 1) := by decide +kernel
theorem dX9_wish_97 : decode cX9_wish 97 = .ok (.imul, 1) := by decide +kernel
theorem dX9_wish_98 : decode cX9_wish 98 = .ok (.iadd, 1) := by decide +kernel
theorem dX9_wish_99 : decode cX9_wish 99 = .ok (.istore 5, 2) := by decide +kernel
theorem dX9_wish_101 : decode cX9_wish 101 = .ok (.aload_n 0, 1) := by decide +kernel
theorem dX9_wish_102 : decode cX9_wish 102 = .ok (.getfield 7, 3) := by decide +kernel
theorem dX9_wish_105 : decode cX9_wish 105 = .ok (.iload 5, 2) := by decide +kernel
theorem dX9_wish_107 : decode cX9_wish 107 = .ok (.iload_n 1, 1) := by decide +kernel
theorem dX9_wish_108 : decode cX9_wish 108 = .ok (.iastore, 1) := by decide +kernel
theorem dX9_wish_109 : decode cX9_wish 109 = .ok (.aload_n 0, 1) := by decide +kernel
theorem dX9_wish_110 : decode cX9_wish 110 = .ok (.getfield 7, 3) := by decide +kernel
theorem dX9_wish_113 : decode cX9_wish 113 = .ok (.iload 5, 2) := by decide +kernel
theorem dX9_wish_115 : decode cX9_wish 115 = .ok (.iconst 1, 1) := by decide +kernel
theorem dX9_wish_116 : decode cX9_wish 116 = .ok (.iadd, 1) := by decide +kernel
theorem dX9_wish_117 : decode cX9_wish 117 = .ok (.iload_n 2, 1) := by decide +kernel
theorem dX9_wish_118 : decode cX9_wish 118 = .ok (.iastore, 1) := by decide +kernel
theorem dX9_wish_119 : decode cX9_wish 119 = .ok (.aload_n 0, 1) := by decide +kernel
theorem dX9_wish_120 : decode cX9_wish 120 = .ok (.getfield 7, 3) := by decide +kernel
theorem dX9_wish_123 : decode cX9_wish 123 = .ok (.iload 5, 2) := by decide +kernel
theorem dX9_wish_125 : decode cX9_wish 125 = .ok (.iconst 2, 1) := by decide +kernel
theorem dX9_wish_126 : decode cX9_wish 126 = .ok (.iadd, 1) := by decide +kernel
theorem dX9_wish_127 : decode cX9_wish 127 = .ok (.iload_n 3, 1) := by decide +kernel
theorem dX9_wish_128 : decode cX9_wish 128 = .ok (.iastore, 1) := by decide +kernel
theorem dX9_wish_129 : decode cX9_wish 129 = .ok (.aload_n 0, 1) := by decide +kernel
theorem dX9_wish_130 : decode cX9_wish 130 = .ok (.getfield 7, 3) := by decide +kernel
theorem dX9_wish_133 : decode cX9_wish 133 = .ok (.bipush 6, 2) := by decide +kernel
theorem dX9_wish_135 : decode cX9_wish 135 = .ok (.dup2, 1) := by decide +kernel
theorem dX9_wish_136 : decode cX9_wish 136 = .ok (.iaload, 1) := by decide +kernel
theorem dX9_wish_137 : decode cX9_wish 137 = .ok (.iconst 1, 1) := by decide +kernel
theorem dX9_wish_138 : decode cX9_wish 138 = .ok (.iadd, 1) := by decide +kernel
theorem dX9_wish_139 : decode cX9_wish 139 = .ok (.iastore, 1) := by decide +kernel
theorem dX9_wish_140 : decode cX9_wish 140 = .ok (.sipush 1000, 3) := by decide +kernel
theorem dX9_wish_143 : decode cX9_wish 143 = .ok (.aload_n 0, 1) := by decide +kernel
theorem dX9_wish_144 : decode cX9_wish 144 = .ok (.getfield 7, 3) := by decide +kernel
theorem dX9_wish_147 : decode cX9_wish 147 = .ok (.bipush 6, 2) := by decide +kernel
theorem dX9_wish_149 : decode cX9_wish 149 = .ok (.iaload, 1) := by decide +kernel
theorem dX9_wish_150 : decode cX9_wish 150 = .ok (.iadd, 1) := by decide +kernel
theorem dX9_wish_151 : decode cX9_wish 151 = .ok (.ireturn, 1) := by decide +kernel
abbrev rX9_wish : Room := { frames := 7, cells := 0, slots := 0, locals := 169 }
set_option maxRecDepth 20000 in
theorem gd_X9_wish_B63 {x : Cx} {y : Cy} (hy : Inj y) (h : OkM x y cX9_wish RX9 6 (some .int) rX9_wish) (a1 : Int32) (a2 : Int32) (a3 : Int32) (a4 : Int32) (M : Mem) : G x y 63 [(0, .ref (y.2.1 143)), (1, .int a1), (2, .int a2), (3, .int a3), (4, .int a4)] [] M (d_X9_wish_B63 a1 a2 a3 a4 M) := by
  unfold d_X9_wish_B63
  refine G_aload_n (pc := 63) h.1 dX9_wish_63 rfl 0 rfl ?_
  refine G_callVv (pc := 64) (As := []) (rest := []) h.1 h.2.2.1 lk_X9_159 lN143 (eM143 _) rfl rfl (c_X9_comes x.1.2.1 y hy M) rfl rfl (Nat.le_of_ble_eq_true rfl) ⟨rfl, rfl, Nat.le_of_ble_eq_true rfl, Nat.le_of_ble_eq_true rfl⟩ dX9_wish_64 (fun r12 M11 => ?_)
  refine G_aload_n (pc := 67) h.1 dX9_wish_67 rfl 0 rfl ?_
  refine G_callVv (pc := 68) (As := []) (rest := []) h.1 h.2.2.1 lk_X9_107 lN143 (eM143 _) rfl rfl (c_X9_record x.1.2.1 y hy M11) rfl rfl (Nat.le_of_ble_eq_true rfl) ⟨rfl, rfl, Nat.le_of_ble_eq_true rfl, Nat.le_of_ble_eq_true rfl⟩ dX9_wish_68 (fun r14 M13 => ?_)
  refine G_aload_n (pc := 71) h.1 dX9_wish_71 rfl 0 rfl ?_
  refine G_iload_n (pc := 72) h.1 dX9_wish_72 rfl 1 rfl ?_
  refine G_iload_n (pc := 73) h.1 dX9_wish_73 rfl 2 rfl ?_
  refine G_iload_n (pc := 74) h.1 dX9_wish_74 rfl 3 rfl ?_
  refine G_callV (pc := 75) (As := [.int a1, .int a2, .int a3]) (rest := []) h.1 h.2.2.1 lk_X9_147 lN143 (eM143 _) rfl rfl (c_X9_grants x.1.2.1 y hy a1 a2 a3 M13) rfl rfl (Nat.le_of_ble_eq_true rfl) ⟨rfl, rfl, Nat.le_of_ble_eq_true rfl, Nat.le_of_ble_eq_true rfl⟩ dX9_wish_75 (fun r16 M15 => ?_)
  refine G_bipush (pc := 78) (v := (-5)) h.1 dX9_wish_78 (by decide) ?_
  refine G_icmp_eq (pc := 80) (tgt := 86) h.1 dX9_wish_80 (by decide) ?_ ?_
  · refine G_sipush (pc := 86) (v := (342)) h.1 dX9_wish_86 (by decide) ?_
    refine G_iconst (pc := 89) (v := (3)) h.1 dX9_wish_89 (by decide) ?_
    refine G_aload_n (pc := 90) h.1 dX9_wish_90 rfl 0 rfl ?_
    refine G_get (pc := 91) (v := .ref (y.2.1 144)) h.1 fl_X9_7 lN143 (eM143 _) rfl dX9_wish_91 ?_
    refine G_bipush (pc := 94) (v := (6)) h.1 dX9_wish_94 (by decide) ?_
    refine G_iald (pc := 96) h.1 lN144 (eM144 _) dX9_wish_96 ?_
    refine G_imul (pc := 97) h.1 dX9_wish_97 ?_
    refine G_iadd (pc := 98) h.1 dX9_wish_98 ?_
    refine G_top (fun v17 => ?_)
    refine G_istore (pc := 99) h.1 h.2.1 [(5, .int v17), (0, .ref (y.2.1 143)), (1, .int a1), (2, .int a2), (3, .int a3), (4, .int a4)] dX9_wish_99 (by decide) rfl ?_
    refine G_aload_n (pc := 101) h.1 dX9_wish_101 rfl 1 rfl ?_
    refine G_get (pc := 102) (v := .ref (y.2.1 144)) h.1 fl_X9_7 lN143 (eM143 _) rfl dX9_wish_102 ?_
    refine G_iload (pc := 105) h.1 dX9_wish_105 0 rfl ?_
    refine G_iload_n (pc := 107) h.1 dX9_wish_107 rfl 2 rfl ?_
    refine G_iast (pc := 108) h.1 lN144 (fun m => eM144 m) dX9_wish_108 (fun M18 => ?_)
    refine G_aload_n (pc := 109) h.1 dX9_wish_109 rfl 1 rfl ?_
    refine G_get (pc := 110) (v := .ref (y.2.1 144)) h.1 fl_X9_7 lN143 (eM143 _) rfl dX9_wish_110 ?_
    refine G_iload (pc := 113) h.1 dX9_wish_113 0 rfl ?_
    refine G_iconst (pc := 115) (v := (1)) h.1 dX9_wish_115 (by decide) ?_
    refine G_iadd (pc := 116) h.1 dX9_wish_116 ?_
    refine G_iload_n (pc := 117) h.1 dX9_wish_117 rfl 3 rfl ?_
    refine G_iast (pc := 118) h.1 lN144 (fun m => eM144 m) dX9_wish_118 (fun M19 => ?_)
    refine G_aload_n (pc := 119) h.1 dX9_wish_119 rfl 1 rfl ?_
    refine G_get (pc := 120) (v := .ref (y.2.1 144)) h.1 fl_X9_7 lN143 (eM143 _) rfl dX9_wish_120 ?_
    refine G_iload (pc := 123) h.1 dX9_wish_123 0 rfl ?_
    refine G_iconst (pc := 125) (v := (2)) h.1 dX9_wish_125 (by decide) ?_
    refine G_iadd (pc := 126) h.1 dX9_wish_126 ?_
    refine G_iload_n (pc := 127) h.1 dX9_wish_127 rfl 4 rfl ?_
    refine G_iast (pc := 128) h.1 lN144 (fun m => eM144 m) dX9_wish_128 (fun M20 => ?_)
    refine G_aload_n (pc := 129) h.1 dX9_wish_129 rfl 1 rfl ?_
    refine G_get (pc := 130) (v := .ref (y.2.1 144)) h.1 fl_X9_7 lN143 (eM143 _) rfl dX9_wish_130 ?_
    refine G_bipush (pc := 133) (v := (6)) h.1 dX9_wish_133 (by decide) ?_
    refine G_dup2 (pc := 135) h.1 dX9_wish_135 rfl rfl ?_
    refine G_iald (pc := 136) h.1 lN144 (eM144 _) dX9_wish_136 ?_
    refine G_iconst (pc := 137) (v := (1)) h.1 dX9_wish_137 (by decide) ?_
    refine G_iadd (pc := 138) h.1 dX9_wish_138 ?_
    refine G_iast (pc := 139) h.1 lN144 (fun m => eM144 m) dX9_wish_139 (fun M21 => ?_)
    refine G_sipush (pc := 140) (v := (1000)) h.1 dX9_wish_140 (by decide) ?_
    refine G_aload_n (pc := 143) h.1 dX9_wish_143 rfl 1 rfl ?_
    refine G_get (pc := 144) (v := .ref (y.2.1 144)) h.1 fl_X9_7 lN143 (eM143 _) rfl dX9_wish_144 ?_
    refine G_bipush (pc := 147) (v := (6)) h.1 dX9_wish_147 (by decide) ?_
    refine G_iald (pc := 149) h.1 lN144 (eM144 _) dX9_wish_149 ?_
    refine G_iadd (pc := 150) h.1 dX9_wish_150 ?_
    exact G_ret (pc := 151) h rfl dX9_wish_151
  · refine G_iload (pc := 83) h.1 dX9_wish_83 4 rfl ?_
    exact G_ret (pc := 85) h rfl dX9_wish_85
set_option maxRecDepth 20000 in
theorem c_X9_wish (l : Launch) (y : Cy) (hy : Inj y) (p1 : Int32) (p2 : Int32) (p3 : Int32) (M : Mem) : CT l y yX9_wish cX9_wish 6 (some .int) rX9_wish [.ref (y.2.1 143), .int p1, .int p2, .int p3] M (d_X9_wish p1 p2 p3 M) := by
  refine CT_of (by decide) hy (Nat.le_of_ble_eq_true rfl) (fun x hxl h => ?_)
  show G x y 0 [(0, .ref (y.2.1 143)), (1, .int p1), (2, .int p2), (3, .int p3)] [] M _
  unfold d_X9_wish
  refine G_iload_n (pc := 0) h.1 dX9_wish_0 rfl 1 rfl ?_
  refine G_callS (pc := 1) (As := [.int p1]) (rest := []) h.1 h.2.2.1 lk_X9_114 (c_X9_noRobot x.1.2.1 y hy p1 M) rfl rfl (Nat.le_of_ble_eq_true rfl) ⟨rfl, rfl, Nat.le_of_ble_eq_true rfl, Nat.le_of_ble_eq_true rfl⟩ dX9_wish_1 (fun r2 M1 => ?_)
  refine G_if_ne (pc := 4) (tgt := 15) h.1 dX9_wish_4 (by decide) ?_ ?_
  · refine G_iconst (pc := 15) (v := (-1)) h.1 dX9_wish_15 (by decide) ?_
    exact G_ret (pc := 16) h rfl dX9_wish_16
  · refine G_aload_n (pc := 7) h.1 dX9_wish_7 rfl 0 rfl ?_
    refine G_iload_n (pc := 8) h.1 dX9_wish_8 rfl 2 rfl ?_
    refine G_callV (pc := 9) (As := [.int p2]) (rest := []) h.1 h.2.2.1 lk_X9_118 lN143 (eM143 _) rfl rfl (c_X9_noRecipe x.1.2.1 y hy p2 M1) rfl rfl (Nat.le_of_ble_eq_true rfl) ⟨rfl, rfl, Nat.le_of_ble_eq_true rfl, Nat.le_of_ble_eq_true rfl⟩ dX9_wish_9 (fun r4 M3 => ?_)
    refine G_if_eq (pc := 12) (tgt := 17) h.1 dX9_wish_12 (by decide) ?_ ?_
    · refine G_aload_n (pc := 17) h.1 dX9_wish_17 rfl 0 rfl ?_
      refine G_iload_n (pc := 18) h.1 dX9_wish_18 rfl 3 rfl ?_
      refine G_callV (pc := 19) (As := [.int p3]) (rest := []) h.1 h.2.2.1 lk_X9_121 lN143 (eM143 _) rfl rfl (c_X9_isStart x.1.2.1 y hy p3 M3) rfl rfl (Nat.le_of_ble_eq_true rfl) ⟨rfl, rfl, Nat.le_of_ble_eq_true rfl, Nat.le_of_ble_eq_true rfl⟩ dX9_wish_19 (fun r6 M5 => ?_)
      refine G_if_ne (pc := 22) (tgt := 28) h.1 dX9_wish_22 (by decide) ?_ ?_
      · refine G_aload_n (pc := 28) h.1 dX9_wish_28 rfl 0 rfl ?_
        refine G_callVv (pc := 29) (As := []) (rest := []) h.1 h.2.2.1 lk_X9_156 lN143 (eM143 _) rfl rfl (c_X9_goes x.1.2.1 y hy M5) rfl rfl (Nat.le_of_ble_eq_true rfl) ⟨rfl, rfl, Nat.le_of_ble_eq_true rfl, Nat.le_of_ble_eq_true rfl⟩ dX9_wish_29 (fun r8 M7 => ?_)
        refine G_aload_n (pc := 32) h.1 dX9_wish_32 rfl 0 rfl ?_
        refine G_iload_n (pc := 33) h.1 dX9_wish_33 rfl 1 rfl ?_
        refine G_iload_n (pc := 34) h.1 dX9_wish_34 rfl 2 rfl ?_
        refine G_iload_n (pc := 35) h.1 dX9_wish_35 rfl 3 rfl ?_
        refine G_callV (pc := 36) (As := [.int p1, .int p2, .int p3]) (rest := []) h.1 h.2.2.1 lk_X9_147 lN143 (eM143 _) rfl rfl (c_X9_grants x.1.2.1 y hy p1 p2 p3 M7) rfl rfl (Nat.le_of_ble_eq_true rfl) ⟨rfl, rfl, Nat.le_of_ble_eq_true rfl, Nat.le_of_ble_eq_true rfl⟩ dX9_wish_36 (fun r10 M9 => ?_)
        refine G_istore (pc := 39) h.1 h.2.1 [(4, .int r10), (0, .ref (y.2.1 143)), (1, .int p1), (2, .int p2), (3, .int p3)] dX9_wish_39 (by decide) rfl ?_
        refine G_iload (pc := 41) h.1 dX9_wish_41 0 rfl ?_
        refine G_bipush (pc := 43) (v := (-5)) h.1 dX9_wish_43 (by decide) ?_
        refine G_icmp_ne (pc := 45) (tgt := 63) h.1 dX9_wish_45 (by decide) ?_ ?_
        · exact G_sub [1, 2, 3, 4, 0] rfl (gd_X9_wish_B63 hy h p1 p2 p3 r10 M9)
        · refine G_aload_n (pc := 48) h.1 dX9_wish_48 rfl 1 rfl ?_
          refine G_get (pc := 49) (v := .ref (y.2.1 144)) h.1 fl_X9_7 lN143 (eM143 _) rfl dX9_wish_49 ?_
          refine G_bipush (pc := 52) (v := (6)) h.1 dX9_wish_52 (by decide) ?_
          refine G_iald (pc := 54) h.1 lN144 (eM144 _) dX9_wish_54 ?_
          refine G_bipush (pc := 55) (v := (8)) h.1 dX9_wish_55 (by decide) ?_
          refine G_icmp_ne (pc := 57) (tgt := 63) h.1 dX9_wish_57 (by decide) ?_ ?_
          · exact G_sub [1, 2, 3, 4, 0] rfl (gd_X9_wish_B63 hy h p1 p2 p3 r10 M9)
          · refine G_bipush (pc := 60) (v := (-3)) h.1 dX9_wish_60 (by decide) ?_
            exact G_ret (pc := 62) h rfl dX9_wish_62
      · refine G_bipush (pc := 25) (v := (-2)) h.1 dX9_wish_25 (by decide) ?_
        exact G_ret (pc := 27) h rfl dX9_wish_27
    · refine G_iconst (pc := 15) (v := (-1)) h.1 dX9_wish_15 (by decide) ?_
      exact G_ret (pc := 16) h rfl dX9_wish_16
theorem dX9_unwish_0 : decode cX9_unwish 0 = .ok (.iload_n 1, 1) := by decide +kernel
theorem dX9_unwish_1 : decode cX9_unwish 1 = .ok (.iconst 0, 1) := by decide +kernel
theorem dX9_unwish_2 : decode cX9_unwish 2 = .ok (.aload_n 0, 1) := by decide +kernel
theorem dX9_unwish_3 : decode cX9_unwish 3 = .ok (.getfield 7, 3) := by decide +kernel
theorem dX9_unwish_6 : decode cX9_unwish 6 = .ok (.bipush 6, 2) := by decide +kernel
theorem dX9_unwish_8 : decode cX9_unwish 8 = .ok (.iaload, 1) := by decide +kernel
theorem dX9_unwish_9 : decode cX9_unwish 9 = .ok (.iconst 1, 1) := by decide +kernel
theorem dX9_unwish_10 : decode cX9_unwish 10 = .ok (.isub, 1) := by decide +kernel
theorem dX9_unwish_11 : decode cX9_unwish 11 = .ok (.invokestatic 52, 3) := by decide +kernel
theorem dX9_unwish_14 : decode cX9_unwish 14 = .ok (.ifCond .ne 5, 3) := by decide +kernel
theorem dX9_unwish_17 : decode cX9_unwish 17 = .ok (.iconst (-1), 1) := by decide +kernel
theorem dX9_unwish_18 : decode cX9_unwish 18 = .ok (.ireturn, 1) := by decide +kernel
theorem dX9_unwish_19 : decode cX9_unwish 19 = .ok (.aload_n 0, 1) := by decide +kernel
theorem dX9_unwish_20 : decode cX9_unwish 20 = .ok (.invokevirtual 107, 3) := by decide +kernel
theorem dX9_unwish_23 : decode cX9_unwish 23 = .ok (.aload_n 0, 1) := by decide +kernel
theorem dX9_unwish_24 : decode cX9_unwish 24 = .ok (.iload_n 1, 1) := by decide +kernel
theorem dX9_unwish_25 : decode cX9_unwish 25 = .ok (.iconst 1, 1) := by decide +kernel
theorem dX9_unwish_26 : decode cX9_unwish 26 = .ok (.invokevirtual 144, 3) := by decide +kernel
theorem dX9_unwish_29 : decode cX9_unwish 29 = .ok (.istore_n 2, 1) := by decide +kernel
theorem dX9_unwish_30 : decode cX9_unwish 30 = .ok (.aload_n 0, 1) := by decide +kernel
theorem dX9_unwish_31 : decode cX9_unwish 31 = .ok (.iload_n 1, 1) := by decide +kernel
theorem dX9_unwish_32 : decode cX9_unwish 32 = .ok (.invokevirtual 150, 3) := by decide +kernel
theorem dX9_unwish_35 : decode cX9_unwish 35 = .ok (.iload_n 2, 1) := by decide +kernel
theorem dX9_unwish_36 : decode cX9_unwish 36 = .ok (.ireturn, 1) := by decide +kernel
abbrev rX9_unwish : Room := { frames := 1, cells := 0, slots := 0, locals := 22 }
set_option maxRecDepth 20000 in
theorem c_X9_unwish (l : Launch) (y : Cy) (hy : Inj y) (p1 : Int32) (M : Mem) : CT l y yX9_unwish cX9_unwish 3 (some .int) rX9_unwish [.ref (y.2.1 143), .int p1] M (d_X9_unwish p1 M) := by
  refine CT_of (by decide) hy (Nat.le_of_ble_eq_true rfl) (fun x hxl h => ?_)
  show G x y 0 [(0, .ref (y.2.1 143)), (1, .int p1)] [] M _
  unfold d_X9_unwish
  refine G_iload_n (pc := 0) h.1 dX9_unwish_0 rfl 1 rfl ?_
  refine G_iconst (pc := 1) (v := (0)) h.1 dX9_unwish_1 (by decide) ?_
  refine G_aload_n (pc := 2) h.1 dX9_unwish_2 rfl 0 rfl ?_
  refine G_get (pc := 3) (v := .ref (y.2.1 144)) h.1 fl_X9_7 lN143 (eM143 _) rfl dX9_unwish_3 ?_
  refine G_bipush (pc := 6) (v := (6)) h.1 dX9_unwish_6 (by decide) ?_
  refine G_iald (pc := 8) h.1 lN144 (eM144 _) dX9_unwish_8 ?_
  refine G_iconst (pc := 9) (v := (1)) h.1 dX9_unwish_9 (by decide) ?_
  refine G_isub (pc := 10) h.1 dX9_unwish_10 ?_
  refine G_callS (pc := 11) (As := [.int p1, .int (0 : Int32), .int ((M 144 ((6 : Int32)).toNatClampNeg) - (1 : Int32))]) (rest := []) h.1 h.2.2.1 lk_X9_52 (c_X9_in x.1.2.1 y hy p1 (0 : Int32) ((M 144 ((6 : Int32)).toNatClampNeg) - (1 : Int32)) M) rfl rfl (Nat.le_of_ble_eq_true rfl) ⟨rfl, rfl, Nat.le_of_ble_eq_true rfl, Nat.le_of_ble_eq_true rfl⟩ dX9_unwish_11 (fun r2 M1 => ?_)
  refine G_if_ne (pc := 14) (tgt := 19) h.1 dX9_unwish_14 (by decide) ?_ ?_
  · refine G_aload_n (pc := 19) h.1 dX9_unwish_19 rfl 0 rfl ?_
    refine G_callVv (pc := 20) (As := []) (rest := []) h.1 h.2.2.1 lk_X9_107 lN143 (eM143 _) rfl rfl (c_X9_record x.1.2.1 y hy M1) rfl rfl (Nat.le_of_ble_eq_true rfl) ⟨rfl, rfl, Nat.le_of_ble_eq_true rfl, Nat.le_of_ble_eq_true rfl⟩ dX9_unwish_20 (fun r4 M3 => ?_)
    refine G_aload_n (pc := 23) h.1 dX9_unwish_23 rfl 0 rfl ?_
    refine G_iload_n (pc := 24) h.1 dX9_unwish_24 rfl 1 rfl ?_
    refine G_iconst (pc := 25) (v := (1)) h.1 dX9_unwish_25 (by decide) ?_
    refine G_callV (pc := 26) (As := [.int p1, .int (1 : Int32)]) (rest := []) h.1 h.2.2.1 lk_X9_144 lN143 (eM143 _) rfl rfl (c_X9_ofWish x.1.2.1 y hy p1 (1 : Int32) M3) rfl rfl (Nat.le_of_ble_eq_true rfl) ⟨rfl, rfl, Nat.le_of_ble_eq_true rfl, Nat.le_of_ble_eq_true rfl⟩ dX9_unwish_26 (fun r6 M5 => ?_)
    refine G_istore_n (pc := 29) h.1 h.2.1 [(2, .int r6), (0, .ref (y.2.1 143)), (1, .int p1)] dX9_unwish_29 rfl (by decide) rfl ?_
    refine G_aload_n (pc := 30) h.1 dX9_unwish_30 rfl 1 rfl ?_
    refine G_iload_n (pc := 31) h.1 dX9_unwish_31 rfl 2 rfl ?_
    refine G_callVv (pc := 32) (As := [.int p1]) (rest := []) h.1 h.2.2.1 lk_X9_150 lN143 (eM143 _) rfl rfl (c_X9_leaves x.1.2.1 y hy p1 M5) rfl rfl (Nat.le_of_ble_eq_true rfl) ⟨rfl, rfl, Nat.le_of_ble_eq_true rfl, Nat.le_of_ble_eq_true rfl⟩ dX9_unwish_32 (fun r8 M7 => ?_)
    refine G_iload_n (pc := 35) h.1 dX9_unwish_35 rfl 0 rfl ?_
    exact G_ret (pc := 36) h rfl dX9_unwish_36
  · refine G_iconst (pc := 17) (v := (-1)) h.1 dX9_unwish_17 (by decide) ?_
    exact G_ret (pc := 18) h rfl dX9_unwish_18
theorem dX9_draws_0 : decode cX9_draws 0 = .ok (.aload_n 0, 1) := by decide +kernel
theorem dX9_draws_1 : decode cX9_draws 1 = .ok (.iload_n 1, 1) := by decide +kernel
theorem dX9_draws_2 : decode cX9_draws 2 = .ok (.iconst 1, 1) := by decide +kernel
theorem dX9_draws_3 : decode cX9_draws 3 = .ok (.invokevirtual 56, 3) := by decide +kernel
theorem dX9_draws_6 : decode cX9_draws 6 = .ok (.istore_n 2, 1) := by decide +kernel
theorem dX9_draws_7 : decode cX9_draws 7 = .ok (.aload_n 0, 1) := by decide +kernel
theorem dX9_draws_8 : decode cX9_draws 8 = .ok (.iload_n 1, 1) := by decide +kernel
theorem dX9_draws_9 : decode cX9_draws 9 = .ok (.iconst 2, 1) := by decide +kernel
theorem dX9_draws_10 : decode cX9_draws 10 = .ok (.invokevirtual 56, 3) := by decide +kernel
theorem dX9_draws_13 : decode cX9_draws 13 = .ok (.aload_n 0, 1) := by decide +kernel
theorem dX9_draws_14 : decode cX9_draws 14 = .ok (.iload_n 2, 1) := by decide +kernel
theorem dX9_draws_15 : decode cX9_draws 15 = .ok (.iconst 2, 1) := by decide +kernel
theorem dX9_draws_16 : decode cX9_draws 16 = .ok (.invokevirtual 63, 3) := by decide +kernel
theorem dX9_draws_19 : decode cX9_draws 19 = .ok (.iadd, 1) := by decide +kernel
theorem dX9_draws_20 : decode cX9_draws 20 = .ok (.iconst 1, 1) := by decide +kernel
theorem dX9_draws_21 : decode cX9_draws 21 = .ok (.isub, 1) := by decide +kernel
theorem dX9_draws_22 : decode cX9_draws 22 = .ok (.istore_n 3, 1) := by decide +kernel
theorem dX9_draws_23 : decode cX9_draws 23 = .ok (.aload_n 0, 1) := by decide +kernel
theorem dX9_draws_24 : decode cX9_draws 24 = .ok (.iload_n 1, 1) := by decide +kernel
theorem dX9_draws_25 : decode cX9_draws 25 = .ok (.invokevirtual 141, 3) := by decide +kernel
theorem dX9_draws_28 : decode cX9_draws 28 = .ok (.ifCond .eq 22, 3) := by decide +kernel
theorem dX9_draws_31 : decode cX9_draws 31 = .ok (.aload_n 0, 1) := by decide +kernel
theorem dX9_draws_32 : decode cX9_draws 32 = .ok (.getfield 7, 3) := by decide +kernel
theorem dX9_draws_35 : decode cX9_draws 35 = .ok (.iconst 0, 1) := by decide +kernel
theorem dX9_draws_36 : decode cX9_draws 36 = .ok (.iaload, 1) := by decide +kernel
theorem dX9_draws_37 : decode cX9_draws 37 = .ok (.aload_n 0, 1) := by decide +kernel
theorem dX9_draws_38 : decode cX9_draws 38 = .ok (.iload_n 1, 1) := by decide +kernel
theorem dX9_draws_39 : decode cX9_draws 39 = .ok (.iconst 2, 1) := by decide +kernel
theorem dX9_draws_40 : decode cX9_draws 40 = .ok (.invokevirtual 56, 3) := by decide +kernel
theorem dX9_draws_43 : decode cX9_draws 43 = .ok (.iload_n 3, 1) := by decide +kernel
theorem dX9_draws_44 : decode cX9_draws 44 = .ok (.invokestatic 52, 3) := by decide +kernel
theorem dX9_draws_47 : decode cX9_draws 47 = .ok (.ifCond .ne 5, 3) := by decide +kernel
theorem dX9_draws_50 : decode cX9_draws 50 = .ok (.iconst 0, 1) := by decide +kernel
theorem dX9_draws_51 : decode cX9_draws 51 = .ok (.ireturn, 1) := by decide +kernel
theorem dX9_draws_52 : decode cX9_draws 52 = .ok (.aload_n 0, 1) := by decide +kernel
theorem dX9_draws_53 : decode cX9_draws 53 = .ok (.getfield 7, 3) := by decide +kernel
theorem dX9_draws_56 : decode cX9_draws 56 = .ok (.iconst 1, 1) := by decide +kernel
theorem dX9_draws_57 : decode cX9_draws 57 = .ok (.iaload, 1) := by decide +kernel
theorem dX9_draws_58 : decode cX9_draws 58 = .ok (.aload_n 0, 1) := by decide +kernel
theorem dX9_draws_59 : decode cX9_draws 59 = .ok (.iload_n 2, 1) := by decide +kernel
theorem dX9_draws_60 : decode cX9_draws 60 = .ok (.iconst 0, 1) := by decide +kernel
theorem dX9_draws_61 : decode cX9_draws 61 = .ok (.invokevirtual 63, 3) := by decide +kernel
theorem dX9_draws_64 : decode cX9_draws 64 = .ok (.if_icmp .ge 12, 3) := by decide +kernel
theorem dX9_draws_67 : decode cX9_draws 67 = .ok (.aload_n 0, 1) := by decide +kernel
theorem dX9_draws_68 : decode cX9_draws 68 = .ok (.iload_n 1, 1) := by decide +kernel
theorem dX9_draws_69 : decode cX9_draws 69 = .ok (.iconst 3, 1) := by decide +kernel
theorem dX9_draws_70 : decode cX9_draws 70 = .ok (.iconst 3, 1) := by decide +kernel
theorem dX9_draws_71 : decode cX9_draws 71 = .ok (.invokevirtual 103, 3) := by decide +kernel
theorem dX9_draws_74 : decode cX9_draws 74 = .ok (.iconst 0, 1) := by decide +kernel
theorem dX9_draws_75 : decode cX9_draws 75 = .ok (.ireturn, 1) := by decide +kernel
theorem dX9_draws_76 : decode cX9_draws 76 = .ok (.aload_n 0, 1) := by decide +kernel
theorem dX9_draws_77 : decode cX9_draws 77 = .ok (.iload_n 2, 1) := by decide +kernel
theorem dX9_draws_78 : decode cX9_draws 78 = .ok (.iconst 1, 1) := by decide +kernel
theorem dX9_draws_79 : decode cX9_draws 79 = .ok (.invokevirtual 63, 3) := by decide +kernel
theorem dX9_draws_82 : decode cX9_draws 82 = .ok (.istore 4, 2) := by decide +kernel
theorem dX9_draws_84 : decode cX9_draws 84 = .ok (.iload 4, 2) := by decide +kernel
theorem dX9_draws_86 : decode cX9_draws 86 = .ok (.aload_n 0, 1) := by decide +kernel
theorem dX9_draws_87 : decode cX9_draws 87 = .ok (.getfield 7, 3) := by decide +kernel
theorem dX9_draws_90 : decode cX9_draws 90 = .ok (.iconst 1, 1) := by decide +kernel
theorem dX9_draws_91 : decode cX9_draws 91 = .ok (.iaload, 1) := by decide +kernel
theorem dX9_draws_92 : decode cX9_draws 92 = .ok (.if_icmp .le 12, 3) := by decide +kernel
theorem dX9_draws_95 : decode cX9_draws 95 = .ok (.aload_n 0, 1) := by decide +kernel
theorem dX9_draws_96 : decode cX9_draws 96 = .ok (.getfield 7, 3) := by decide +kernel
theorem dX9_draws_99 : decode cX9_draws 99 = .ok (.iconst 1, 1) := by decide +kernel
theorem dX9_draws_100 : decode cX9_draws 100 = .ok (.iaload, 1) := by decide +kernel
theorem dX9_draws_101 : decode cX9_draws 101 = .ok (.goto 5, 3) := by decide +kernel
theorem dX9_draws_104 : decode cX9_draws 104 = .ok (.iload 4, 2) := by decide +kernel
theorem dX9_draws_106 : decode cX9_draws 106 = .ok (.istore 4, 2) := by decide +kernel
theorem dX9_draws_108 : decode cX9_draws 108 = .ok (.aload_n 0, 1) := by decide +kernel
theorem dX9_draws_109 : decode cX9_draws 109 = .ok (.getfield 7, 3) := by decide +kernel
theorem dX9_draws_112 : decode cX9_draws 112 = .ok (.iconst 1, 1) := by decide +kernel
theorem dX9_draws_113 : decode cX9_draws 113 = .ok (.dup2, 1) := by decide +kernel
theorem dX9_draws_114 : decode cX9_draws 114 = .ok (.iaload, 1) := by decide +kernel
theorem dX9_draws_115 : decode cX9_draws 115 = .ok (.iload 4, 2) := by decide +kernel
theorem dX9_draws_117 : decode cX9_draws 117 = .ok (.isub, 1) := by decide +kernel
theorem dX9_draws_118 : decode cX9_draws 118 = .ok (.iastore, 1) := by decide +kernel
theorem dX9_draws_119 : decode cX9_draws 119 = .ok (.aload_n 0, 1) := by decide +kernel
theorem dX9_draws_120 : decode cX9_draws 120 = .ok (.getfield 7, 3) := by decide +kernel
theorem dX9_draws_123 : decode cX9_draws 123 = .ok (.bipush 9, 2) := by decide +kernel
theorem dX9_draws_125 : decode cX9_draws 125 = .ok (.dup2, 1) := by decide +kernel
theorem dX9_draws_126 : decode cX9_draws 126 = .ok (.iaload, 1) := by decide +kernel
theorem dX9_draws_127 : decode cX9_draws 127 = .ok (.iload 4, 2) := by decide +kernel
theorem dX9_draws_129 : decode cX9_draws 129 = .ok (.iadd, 1) := by decide +kernel
theorem dX9_draws_130 : decode cX9_draws 130 = .ok (.iastore, 1) := by decide +kernel
theorem dX9_draws_131 : decode cX9_draws 131 = .ok (.aload_n 0, 1) := by decide +kernel
theorem dX9_draws_132 : decode cX9_draws 132 = .ok (.iload_n 1, 1) := by decide +kernel
theorem dX9_draws_133 : decode cX9_draws 133 = .ok (.iconst 4, 1) := by decide +kernel
theorem dX9_draws_134 : decode cX9_draws 134 = .ok (.aload_n 0, 1) := by decide +kernel
theorem dX9_draws_135 : decode cX9_draws 135 = .ok (.iload_n 1, 1) := by decide +kernel
theorem dX9_draws_136 : decode cX9_draws 136 = .ok (.iconst 4, 1) := by decide +kernel
theorem dX9_draws_137 : decode cX9_draws 137 = .ok (.invokevirtual 56, 3) := by decide +kernel
theorem dX9_draws_140 : decode cX9_draws 140 = .ok (.iconst 1, 1) := by decide +kernel
theorem dX9_draws_141 : decode cX9_draws 141 = .ok (.iadd, 1) := by decide +kernel
theorem dX9_draws_142 : decode cX9_draws 142 = .ok (.invokevirtual 103, 3) := by decide +kernel
theorem dX9_draws_145 : decode cX9_draws 145 = .ok (.aload_n 0, 1) := by decide +kernel
theorem dX9_draws_146 : decode cX9_draws 146 = .ok (.iload_n 1, 1) := by decide +kernel
theorem dX9_draws_147 : decode cX9_draws 147 = .ok (.iconst 3, 1) := by decide +kernel
theorem dX9_draws_148 : decode cX9_draws 148 = .ok (.aload_n 0, 1) := by decide +kernel
theorem dX9_draws_149 : decode cX9_draws 149 = .ok (.getfield 7, 3) := by decide +kernel
theorem dX9_draws_152 : decode cX9_draws 152 = .ok (.iconst 0, 1) := by decide +kernel
theorem dX9_draws_153 : decode cX9_draws 153 = .ok (.iaload, 1) := by decide +kernel
theorem dX9_draws_154 : decode cX9_draws 154 = .ok (.iload_n 3, 1) := by decide +kernel
theorem dX9_draws_155 : decode cX9_draws 155 = .ok (.if_icmp .ne 7, 3) := by decide +kernel
theorem dX9_draws_158 : decode cX9_draws 158 = .ok (.iconst 2, 1) := by decide +kernel
theorem dX9_draws_159 : decode cX9_draws 159 = .ok (.goto 4, 3) := by decide +kernel
theorem dX9_draws_162 : decode cX9_draws 162 = .ok (.iconst 1, 1) := by decide +kernel
theorem dX9_draws_163 : decode cX9_draws 163 = .ok (.invokevirtual 103, 3) := by decide +kernel
theorem dX9_draws_166 : decode cX9_draws 166 = .ok (.aload_n 0, 1) := by decide +kernel
theorem dX9_draws_167 : decode cX9_draws 167 = .ok (.getfield 7, 3) := by decide +kernel
theorem dX9_draws_170 : decode cX9_draws 170 = .ok (.iconst 0, 1) := by decide +kernel
theorem dX9_draws_171 : decode cX9_draws 171 = .ok (.iaload, 1) := by decide +kernel
theorem dX9_draws_172 : decode cX9_draws 172 = .ok (.iload_n 3, 1) := by decide +kernel
theorem dX9_draws_173 : decode cX9_draws 173 = .ok (.if_icmp .ne 7, 3) := by decide +kernel
theorem dX9_draws_176 : decode cX9_draws 176 = .ok (.iconst 1, 1) := by decide +kernel
theorem dX9_draws_177 : decode cX9_draws 177 = .ok (.goto 4, 3) := by decide +kernel
theorem dX9_draws_180 : decode cX9_draws 180 = .ok (.iconst 0, 1) := by decide +kernel
theorem dX9_draws_181 : decode cX9_draws 181 = .ok (.ireturn, 1) := by decide +kernel
abbrev rX9_draws : Room := { frames := 2, cells := 0, slots := 0, locals := 43 }
set_option maxRecDepth 20000 in
theorem gd_X9_draws_B163 {x : Cx} {y : Cy} (hy : Inj y) (h : OkM x y cX9_draws RX9 5 (some .boolean) rX9_draws) (a3 : Int32) (s0 : Int32) (s1 : Int32) (s2 : Int32) (M : Mem) : G x y 163 [(0, .ref (y.2.1 143)), (3, .int a3)] [.int s0, .int s1, .int s2, .ref (y.2.1 143)] M (d_X9_draws_B163 a3 s0 s1 s2 M) := by
  unfold d_X9_draws_B163
  refine G_callVv (pc := 163) (As := [.int s2, .int s1, .int s0]) (rest := []) h.1 h.2.2.1 lk_X9_103 lN143 (eM143 _) rfl rfl (c_X9_puts x.1.2.1 y hy s2 s1 s0 M) rfl rfl (Nat.le_of_ble_eq_true rfl) ⟨rfl, rfl, Nat.le_of_ble_eq_true rfl, Nat.le_of_ble_eq_true rfl⟩ dX9_draws_163 (fun r25 M24 => ?_)
  refine G_aload_n (pc := 166) h.1 dX9_draws_166 rfl 0 rfl ?_
  refine G_get (pc := 167) (v := .ref (y.2.1 144)) h.1 fl_X9_7 lN143 (eM143 _) rfl dX9_draws_167 ?_
  refine G_iconst (pc := 170) (v := (0)) h.1 dX9_draws_170 (by decide) ?_
  refine G_iald (pc := 171) h.1 lN144 (eM144 _) dX9_draws_171 ?_
  refine G_iload_n (pc := 172) h.1 dX9_draws_172 rfl 1 rfl ?_
  refine G_icmp_ne (pc := 173) (tgt := 180) h.1 dX9_draws_173 (by decide) ?_ ?_
  · refine G_iconst (pc := 180) (v := (0)) h.1 dX9_draws_180 (by decide) ?_
    exact G_ret (pc := 181) h rfl dX9_draws_181
  · refine G_iconst (pc := 176) (v := (1)) h.1 dX9_draws_176 (by decide) ?_
    refine G_goto (pc := 177) (tgt := 181) h.1 dX9_draws_177 (by decide) ?_
    exact G_ret (pc := 181) h rfl dX9_draws_181
set_option maxRecDepth 20000 in
theorem gd_X9_draws_B106 {x : Cx} {y : Cy} (hy : Inj y) (h : OkM x y cX9_draws RX9 5 (some .boolean) rX9_draws) (a1 : Int32) (a3 : Int32) (s0 : Int32) (M : Mem) : G x y 106 [(0, .ref (y.2.1 143)), (1, .int a1), (3, .int a3)] [.int s0] M (d_X9_draws_B106 a1 a3 s0 M) := by
  unfold d_X9_draws_B106
  refine G_istore (pc := 106) h.1 h.2.1 [(4, .int s0), (0, .ref (y.2.1 143)), (1, .int a1), (3, .int a3)] dX9_draws_106 (by decide) rfl ?_
  refine G_aload_n (pc := 108) h.1 dX9_draws_108 rfl 1 rfl ?_
  refine G_get (pc := 109) (v := .ref (y.2.1 144)) h.1 fl_X9_7 lN143 (eM143 _) rfl dX9_draws_109 ?_
  refine G_iconst (pc := 112) (v := (1)) h.1 dX9_draws_112 (by decide) ?_
  refine G_dup2 (pc := 113) h.1 dX9_draws_113 rfl rfl ?_
  refine G_iald (pc := 114) h.1 lN144 (eM144 _) dX9_draws_114 ?_
  refine G_iload (pc := 115) h.1 dX9_draws_115 0 rfl ?_
  refine G_isub (pc := 117) h.1 dX9_draws_117 ?_
  refine G_iast (pc := 118) h.1 lN144 (fun m => eM144 m) dX9_draws_118 (fun M18 => ?_)
  refine G_aload_n (pc := 119) h.1 dX9_draws_119 rfl 1 rfl ?_
  refine G_get (pc := 120) (v := .ref (y.2.1 144)) h.1 fl_X9_7 lN143 (eM143 _) rfl dX9_draws_120 ?_
  refine G_bipush (pc := 123) (v := (9)) h.1 dX9_draws_123 (by decide) ?_
  refine G_dup2 (pc := 125) h.1 dX9_draws_125 rfl rfl ?_
  refine G_iald (pc := 126) h.1 lN144 (eM144 _) dX9_draws_126 ?_
  refine G_iload (pc := 127) h.1 dX9_draws_127 0 rfl ?_
  refine G_iadd (pc := 129) h.1 dX9_draws_129 ?_
  refine G_iast (pc := 130) h.1 lN144 (fun m => eM144 m) dX9_draws_130 (fun M19 => ?_)
  refine G_aload_n (pc := 131) h.1 dX9_draws_131 rfl 1 rfl ?_
  refine G_iload_n (pc := 132) h.1 dX9_draws_132 rfl 2 rfl ?_
  refine G_iconst (pc := 133) (v := (4)) h.1 dX9_draws_133 (by decide) ?_
  refine G_aload_n (pc := 134) h.1 dX9_draws_134 rfl 1 rfl ?_
  refine G_iload_n (pc := 135) h.1 dX9_draws_135 rfl 2 rfl ?_
  refine G_iconst (pc := 136) (v := (4)) h.1 dX9_draws_136 (by decide) ?_
  refine G_callV (pc := 137) (As := [.int a1, .int (4 : Int32)]) (rest := [.int (4 : Int32), .int a1, .ref (y.2.1 143)]) h.1 h.2.2.1 lk_X9_56 lN143 (eM143 _) rfl rfl (c_X9_of x.1.2.1 y hy a1 (4 : Int32) M19) rfl rfl (Nat.le_of_ble_eq_true rfl) ⟨rfl, rfl, Nat.le_of_ble_eq_true rfl, Nat.le_of_ble_eq_true rfl⟩ dX9_draws_137 (fun r21 M20 => ?_)
  refine G_iconst (pc := 140) (v := (1)) h.1 dX9_draws_140 (by decide) ?_
  refine G_iadd (pc := 141) h.1 dX9_draws_141 ?_
  refine G_callVv (pc := 142) (As := [.int a1, .int (4 : Int32), .int (r21 + (1 : Int32))]) (rest := []) h.1 h.2.2.1 lk_X9_103 lN143 (eM143 _) rfl rfl (c_X9_puts x.1.2.1 y hy a1 (4 : Int32) (r21 + (1 : Int32)) M20) rfl rfl (Nat.le_of_ble_eq_true rfl) ⟨rfl, rfl, Nat.le_of_ble_eq_true rfl, Nat.le_of_ble_eq_true rfl⟩ dX9_draws_142 (fun r23 M22 => ?_)
  refine G_aload_n (pc := 145) h.1 dX9_draws_145 rfl 1 rfl ?_
  refine G_iload_n (pc := 146) h.1 dX9_draws_146 rfl 2 rfl ?_
  refine G_iconst (pc := 147) (v := (3)) h.1 dX9_draws_147 (by decide) ?_
  refine G_aload_n (pc := 148) h.1 dX9_draws_148 rfl 1 rfl ?_
  refine G_get (pc := 149) (v := .ref (y.2.1 144)) h.1 fl_X9_7 lN143 (eM143 _) rfl dX9_draws_149 ?_
  refine G_iconst (pc := 152) (v := (0)) h.1 dX9_draws_152 (by decide) ?_
  refine G_iald (pc := 153) h.1 lN144 (eM144 _) dX9_draws_153 ?_
  refine G_iload_n (pc := 154) h.1 dX9_draws_154 rfl 3 rfl ?_
  refine G_icmp_ne (pc := 155) (tgt := 162) h.1 dX9_draws_155 (by decide) ?_ ?_
  · refine G_iconst (pc := 162) (v := (1)) h.1 dX9_draws_162 (by decide) ?_
    exact G_sub [1, 3] rfl (gd_X9_draws_B163 hy h a3 (1 : Int32) (3 : Int32) a1 M22)
  · refine G_iconst (pc := 158) (v := (2)) h.1 dX9_draws_158 (by decide) ?_
    refine G_goto (pc := 159) (tgt := 163) h.1 dX9_draws_159 (by decide) ?_
    exact G_sub [1, 3] rfl (gd_X9_draws_B163 hy h a3 (2 : Int32) (3 : Int32) a1 M22)
set_option maxRecDepth 20000 in
theorem c_X9_draws (l : Launch) (y : Cy) (hy : Inj y) (p1 : Int32) (M : Mem) : CT l y yX9_draws cX9_draws 5 (some .boolean) rX9_draws [.ref (y.2.1 143), .int p1] M (d_X9_draws p1 M) := by
  refine CT_of (by decide) hy (Nat.le_of_ble_eq_true rfl) (fun x hxl h => ?_)
  show G x y 0 [(0, .ref (y.2.1 143)), (1, .int p1)] [] M _
  unfold d_X9_draws
  refine G_aload_n (pc := 0) h.1 dX9_draws_0 rfl 0 rfl ?_
  refine G_iload_n (pc := 1) h.1 dX9_draws_1 rfl 1 rfl ?_
  refine G_iconst (pc := 2) (v := (1)) h.1 dX9_draws_2 (by decide) ?_
  refine G_callV (pc := 3) (As := [.int p1, .int (1 : Int32)]) (rest := []) h.1 h.2.2.1 lk_X9_56 lN143 (eM143 _) rfl rfl (c_X9_of x.1.2.1 y hy p1 (1 : Int32) M) rfl rfl (Nat.le_of_ble_eq_true rfl) ⟨rfl, rfl, Nat.le_of_ble_eq_true rfl, Nat.le_of_ble_eq_true rfl⟩ dX9_draws_3 (fun r2 M1 => ?_)
  refine G_istore_n (pc := 6) h.1 h.2.1 [(2, .int r2), (0, .ref (y.2.1 143)), (1, .int p1)] dX9_draws_6 rfl (by decide) rfl ?_
  refine G_aload_n (pc := 7) h.1 dX9_draws_7 rfl 1 rfl ?_
  refine G_iload_n (pc := 8) h.1 dX9_draws_8 rfl 2 rfl ?_
  refine G_iconst (pc := 9) (v := (2)) h.1 dX9_draws_9 (by decide) ?_
  refine G_callV (pc := 10) (As := [.int p1, .int (2 : Int32)]) (rest := []) h.1 h.2.2.1 lk_X9_56 lN143 (eM143 _) rfl rfl (c_X9_of x.1.2.1 y hy p1 (2 : Int32) M1) rfl rfl (Nat.le_of_ble_eq_true rfl) ⟨rfl, rfl, Nat.le_of_ble_eq_true rfl, Nat.le_of_ble_eq_true rfl⟩ dX9_draws_10 (fun r4 M3 => ?_)
  refine G_aload_n (pc := 13) h.1 dX9_draws_13 rfl 1 rfl ?_
  refine G_iload_n (pc := 14) h.1 dX9_draws_14 rfl 0 rfl ?_
  refine G_iconst (pc := 15) (v := (2)) h.1 dX9_draws_15 (by decide) ?_
  refine G_callV (pc := 16) (As := [.int r2, .int (2 : Int32)]) (rest := [.int r4]) h.1 h.2.2.1 lk_X9_63 lN143 (eM143 _) rfl rfl (c_X9_ofRecipe x.1.2.1 y hy r2 (2 : Int32) M3) rfl rfl (Nat.le_of_ble_eq_true rfl) ⟨rfl, rfl, Nat.le_of_ble_eq_true rfl, Nat.le_of_ble_eq_true rfl⟩ dX9_draws_16 (fun r6 M5 => ?_)
  refine G_iadd (pc := 19) h.1 dX9_draws_19 ?_
  refine G_iconst (pc := 20) (v := (1)) h.1 dX9_draws_20 (by decide) ?_
  refine G_isub (pc := 21) h.1 dX9_draws_21 ?_
  refine G_top (fun v7 => ?_)
  refine G_istore_n (pc := 22) h.1 h.2.1 [(3, .int v7), (2, .int r2), (0, .ref (y.2.1 143)), (1, .int p1)] dX9_draws_22 rfl (by decide) rfl ?_
  refine G_aload_n (pc := 23) h.1 dX9_draws_23 rfl 2 rfl ?_
  refine G_iload_n (pc := 24) h.1 dX9_draws_24 rfl 3 rfl ?_
  refine G_callV (pc := 25) (As := [.int p1]) (rest := []) h.1 h.2.2.1 lk_X9_141 lN143 (eM143 _) rfl rfl (c_X9_isOpen x.1.2.1 y hy p1 M5) rfl rfl (Nat.le_of_ble_eq_true rfl) ⟨rfl, rfl, Nat.le_of_ble_eq_true rfl, Nat.le_of_ble_eq_true rfl⟩ dX9_draws_25 (fun r9 M8 => ?_)
  refine G_if_eq (pc := 28) (tgt := 50) h.1 dX9_draws_28 (by decide) ?_ ?_
  · refine G_iconst (pc := 50) (v := (0)) h.1 dX9_draws_50 (by decide) ?_
    exact G_ret (pc := 51) h rfl dX9_draws_51
  · refine G_aload_n (pc := 31) h.1 dX9_draws_31 rfl 2 rfl ?_
    refine G_get (pc := 32) (v := .ref (y.2.1 144)) h.1 fl_X9_7 lN143 (eM143 _) rfl dX9_draws_32 ?_
    refine G_iconst (pc := 35) (v := (0)) h.1 dX9_draws_35 (by decide) ?_
    refine G_iald (pc := 36) h.1 lN144 (eM144 _) dX9_draws_36 ?_
    refine G_aload_n (pc := 37) h.1 dX9_draws_37 rfl 2 rfl ?_
    refine G_iload_n (pc := 38) h.1 dX9_draws_38 rfl 3 rfl ?_
    refine G_iconst (pc := 39) (v := (2)) h.1 dX9_draws_39 (by decide) ?_
    refine G_callV (pc := 40) (As := [.int p1, .int (2 : Int32)]) (rest := [.int (M8 144 ((0 : Int32)).toNatClampNeg)]) h.1 h.2.2.1 lk_X9_56 lN143 (eM143 _) rfl rfl (c_X9_of x.1.2.1 y hy p1 (2 : Int32) M8) rfl rfl (Nat.le_of_ble_eq_true rfl) ⟨rfl, rfl, Nat.le_of_ble_eq_true rfl, Nat.le_of_ble_eq_true rfl⟩ dX9_draws_40 (fun r11 M10 => ?_)
    refine G_iload_n (pc := 43) h.1 dX9_draws_43 rfl 0 rfl ?_
    refine G_callS (pc := 44) (As := [.int (M8 144 ((0 : Int32)).toNatClampNeg), .int r11, .int v7]) (rest := []) h.1 h.2.2.1 lk_X9_52 (c_X9_in x.1.2.1 y hy (M8 144 ((0 : Int32)).toNatClampNeg) r11 v7 M10) rfl rfl (Nat.le_of_ble_eq_true rfl) ⟨rfl, rfl, Nat.le_of_ble_eq_true rfl, Nat.le_of_ble_eq_true rfl⟩ dX9_draws_44 (fun r13 M12 => ?_)
    refine G_if_ne (pc := 47) (tgt := 52) h.1 dX9_draws_47 (by decide) ?_ ?_
    · refine G_aload_n (pc := 52) h.1 dX9_draws_52 rfl 2 rfl ?_
      refine G_get (pc := 53) (v := .ref (y.2.1 144)) h.1 fl_X9_7 lN143 (eM143 _) rfl dX9_draws_53 ?_
      refine G_iconst (pc := 56) (v := (1)) h.1 dX9_draws_56 (by decide) ?_
      refine G_iald (pc := 57) h.1 lN144 (eM144 _) dX9_draws_57 ?_
      refine G_aload_n (pc := 58) h.1 dX9_draws_58 rfl 2 rfl ?_
      refine G_iload_n (pc := 59) h.1 dX9_draws_59 rfl 1 rfl ?_
      refine G_iconst (pc := 60) (v := (0)) h.1 dX9_draws_60 (by decide) ?_
      refine G_callV (pc := 61) (As := [.int r2, .int (0 : Int32)]) (rest := [.int (M12 144 ((1 : Int32)).toNatClampNeg)]) h.1 h.2.2.1 lk_X9_63 lN143 (eM143 _) rfl rfl (c_X9_ofRecipe x.1.2.1 y hy r2 (0 : Int32) M12) rfl rfl (Nat.le_of_ble_eq_true rfl) ⟨rfl, rfl, Nat.le_of_ble_eq_true rfl, Nat.le_of_ble_eq_true rfl⟩ dX9_draws_61 (fun r15 M14 => ?_)
      refine G_icmp_ge (pc := 64) (tgt := 76) h.1 dX9_draws_64 (by decide) ?_ ?_
      · refine G_aload_n (pc := 76) h.1 dX9_draws_76 rfl 2 rfl ?_
        refine G_iload_n (pc := 77) h.1 dX9_draws_77 rfl 1 rfl ?_
        refine G_iconst (pc := 78) (v := (1)) h.1 dX9_draws_78 (by decide) ?_
        refine G_callV (pc := 79) (As := [.int r2, .int (1 : Int32)]) (rest := []) h.1 h.2.2.1 lk_X9_63 lN143 (eM143 _) rfl rfl (c_X9_ofRecipe x.1.2.1 y hy r2 (1 : Int32) M14) rfl rfl (Nat.le_of_ble_eq_true rfl) ⟨rfl, rfl, Nat.le_of_ble_eq_true rfl, Nat.le_of_ble_eq_true rfl⟩ dX9_draws_79 (fun r17 M16 => ?_)
        refine G_istore (pc := 82) h.1 h.2.1 [(4, .int r17), (3, .int v7), (2, .int r2), (0, .ref (y.2.1 143)), (1, .int p1)] dX9_draws_82 (by decide) rfl ?_
        refine G_iload (pc := 84) h.1 dX9_draws_84 0 rfl ?_
        refine G_aload_n (pc := 86) h.1 dX9_draws_86 rfl 3 rfl ?_
        refine G_get (pc := 87) (v := .ref (y.2.1 144)) h.1 fl_X9_7 lN143 (eM143 _) rfl dX9_draws_87 ?_
        refine G_iconst (pc := 90) (v := (1)) h.1 dX9_draws_90 (by decide) ?_
        refine G_iald (pc := 91) h.1 lN144 (eM144 _) dX9_draws_91 ?_
        refine G_icmp_le (pc := 92) (tgt := 104) h.1 dX9_draws_92 (by decide) ?_ ?_
        · refine G_iload (pc := 104) h.1 dX9_draws_104 0 rfl ?_
          exact G_sub [3, 4, 1] rfl (gd_X9_draws_B106 hy h p1 v7 r17 M16)
        · refine G_aload_n (pc := 95) h.1 dX9_draws_95 rfl 3 rfl ?_
          refine G_get (pc := 96) (v := .ref (y.2.1 144)) h.1 fl_X9_7 lN143 (eM143 _) rfl dX9_draws_96 ?_
          refine G_iconst (pc := 99) (v := (1)) h.1 dX9_draws_99 (by decide) ?_
          refine G_iald (pc := 100) h.1 lN144 (eM144 _) dX9_draws_100 ?_
          refine G_goto (pc := 101) (tgt := 106) h.1 dX9_draws_101 (by decide) ?_
          exact G_sub [3, 4, 1] rfl (gd_X9_draws_B106 hy h p1 v7 (M16 144 ((1 : Int32)).toNatClampNeg) M16)
      · refine G_aload_n (pc := 67) h.1 dX9_draws_67 rfl 2 rfl ?_
        refine G_iload_n (pc := 68) h.1 dX9_draws_68 rfl 3 rfl ?_
        refine G_iconst (pc := 69) (v := (3)) h.1 dX9_draws_69 (by decide) ?_
        refine G_iconst (pc := 70) (v := (3)) h.1 dX9_draws_70 (by decide) ?_
        refine G_callVv (pc := 71) (As := [.int p1, .int (3 : Int32), .int (3 : Int32)]) (rest := []) h.1 h.2.2.1 lk_X9_103 lN143 (eM143 _) rfl rfl (c_X9_puts x.1.2.1 y hy p1 (3 : Int32) (3 : Int32) M14) rfl rfl (Nat.le_of_ble_eq_true rfl) ⟨rfl, rfl, Nat.le_of_ble_eq_true rfl, Nat.le_of_ble_eq_true rfl⟩ dX9_draws_71 (fun r27 M26 => ?_)
        refine G_iconst (pc := 74) (v := (0)) h.1 dX9_draws_74 (by decide) ?_
        exact G_ret (pc := 75) h rfl dX9_draws_75
    · refine G_iconst (pc := 50) (v := (0)) h.1 dX9_draws_50 (by decide) ?_
      exact G_ret (pc := 51) h rfl dX9_draws_51
