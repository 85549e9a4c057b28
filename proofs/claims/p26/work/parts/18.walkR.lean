theorem dX9_pressureIn_0 : decode cX9_pressureIn 0 = .ok (.iload_n 1, 1) := by decide +kernel
theorem dX9_pressureIn_1 : decode cX9_pressureIn 1 = .ok (.iconst 0, 1) := by decide +kernel
theorem dX9_pressureIn_2 : decode cX9_pressureIn 2 = .ok (.sipush 200, 3) := by decide +kernel
theorem dX9_pressureIn_5 : decode cX9_pressureIn 5 = .ok (.invokestatic 52, 3) := by decide +kernel
theorem dX9_pressureIn_8 : decode cX9_pressureIn 8 = .ok (.ifCond .ne 6, 3) := by decide +kernel
theorem dX9_pressureIn_11 : decode cX9_pressureIn 11 = .ok (.bipush (-2), 2) := by decide +kernel
theorem dX9_pressureIn_13 : decode cX9_pressureIn 13 = .ok (.ireturn, 1) := by decide +kernel
theorem dX9_pressureIn_14 : decode cX9_pressureIn 14 = .ok (.aload_n 0, 1) := by decide +kernel
theorem dX9_pressureIn_15 : decode cX9_pressureIn 15 = .ok (.invokevirtual 80, 3) := by decide +kernel
theorem dX9_pressureIn_18 : decode cX9_pressureIn 18 = .ok (.iconst 1, 1) := by decide +kernel
theorem dX9_pressureIn_19 : decode cX9_pressureIn 19 = .ok (.istore_n 2, 1) := by decide +kernel
theorem dX9_pressureIn_20 : decode cX9_pressureIn 20 = .ok (.iload_n 2, 1) := by decide +kernel
theorem dX9_pressureIn_21 : decode cX9_pressureIn 21 = .ok (.iload_n 1, 1) := by decide +kernel
theorem dX9_pressureIn_22 : decode cX9_pressureIn 22 = .ok (.if_icmp .gt 21, 3) := by decide +kernel
theorem dX9_pressureIn_25 : decode cX9_pressureIn 25 = .ok (.aload_n 0, 1) := by decide +kernel
theorem dX9_pressureIn_26 : decode cX9_pressureIn 26 = .ok (.aload_n 0, 1) := by decide +kernel
theorem dX9_pressureIn_27 : decode cX9_pressureIn 27 = .ok (.getfield 7, 3) := by decide +kernel
theorem dX9_pressureIn_30 : decode cX9_pressureIn 30 = .ok (.iconst 0, 1) := by decide +kernel
theorem dX9_pressureIn_31 : decode cX9_pressureIn 31 = .ok (.iaload, 1) := by decide +kernel
theorem dX9_pressureIn_32 : decode cX9_pressureIn 32 = .ok (.iload_n 2, 1) := by decide +kernel
theorem dX9_pressureIn_33 : decode cX9_pressureIn 33 = .ok (.iadd, 1) := by decide +kernel
theorem dX9_pressureIn_34 : decode cX9_pressureIn 34 = .ok (.invokevirtual 83, 3) := by decide +kernel
theorem dX9_pressureIn_37 : decode cX9_pressureIn 37 = .ok (.iinc 2 1, 3) := by decide +kernel
theorem dX9_pressureIn_40 : decode cX9_pressureIn 40 = .ok (.goto (-20), 3) := by decide +kernel
theorem dX9_pressureIn_43 : decode cX9_pressureIn 43 = .ok (.aload_n 0, 1) := by decide +kernel
theorem dX9_pressureIn_44 : decode cX9_pressureIn 44 = .ok (.getfield 66, 3) := by decide +kernel
theorem dX9_pressureIn_47 : decode cX9_pressureIn 47 = .ok (.ireturn, 1) := by decide +kernel
abbrev rX9_pressureIn : Room := { frames := 3, cells := 0, slots := 0, locals := 70 }
set_option maxRecDepth 20000 in
theorem gd_X9_pressureIn_L20_body {x : Cx} {y : Cy} (hy : Inj y) (h : OkM x y cX9_pressureIn RX9 3 (some .int) rX9_pressureIn) (a1 : Int32) (kx1 : Mem → Ans) (hx1 : ∀ M0 : Mem, G x y 43 [(0, .ref (y.2.1 143))] [] M0 (kx1 M0)) (kb : Int32 → Mem → Ans) (hb : ∀ (b2 : Int32), ∀ M0 : Mem, G x y 20 [(0, .ref (y.2.1 143)), (1, .int a1), (2, .int b2)] [] M0 (kb b2 M0)) (a2 : Int32) (M : Mem) : G x y 20 [(0, .ref (y.2.1 143)), (1, .int a1), (2, .int a2)] [] M (d_X9_pressureIn_L20_body a1 kx1 kb a2 M) := by
  unfold d_X9_pressureIn_L20_body
  refine G_iload_n (pc := 20) h.1 dX9_pressureIn_20 rfl 2 rfl ?_
  refine G_iload_n (pc := 21) h.1 dX9_pressureIn_21 rfl 1 rfl ?_
  refine G_icmp_gt (pc := 22) (tgt := 43) h.1 dX9_pressureIn_22 (by decide) ?_ ?_
  · exact G_sub [0] rfl (hx1 M)
  · refine G_aload_n (pc := 25) h.1 dX9_pressureIn_25 rfl 0 rfl ?_
    refine G_aload_n (pc := 26) h.1 dX9_pressureIn_26 rfl 0 rfl ?_
    refine G_get (pc := 27) (v := .ref (y.2.1 144)) h.1 fl_X9_7 lN143 (eM143 _) rfl dX9_pressureIn_27 ?_
    refine G_iconst (pc := 30) (v := (0)) h.1 dX9_pressureIn_30 (by decide) ?_
    refine G_iald (pc := 31) h.1 lN144 (eM144 _) dX9_pressureIn_31 ?_
    refine G_iload_n (pc := 32) h.1 dX9_pressureIn_32 rfl 2 rfl ?_
    refine G_iadd (pc := 33) h.1 dX9_pressureIn_33 ?_
    refine G_callVv (pc := 34) (As := [.int ((M 144 ((0 : Int32)).toNatClampNeg) + a2)]) (rest := []) h.1 h.2.2.1 lk_X9_83 lN143 (eM143 _) rfl rfl (c_X9_foresees x.1.2.1 y hy ((M 144 ((0 : Int32)).toNatClampNeg) + a2) M) rfl rfl (Nat.le_of_ble_eq_true rfl) ⟨rfl, rfl, Nat.le_of_ble_eq_true rfl, Nat.le_of_ble_eq_true rfl⟩ dX9_pressureIn_34 (fun r6 M5 => ?_)
    refine G_iinc (pc := 37) (v := a2 + (1)) h.1 h.2.1 (fun v7 => [(2, .int v7), (0, .ref (y.2.1 143)), (1, .int a1)]) dX9_pressureIn_37 (by decide) 2 rfl rfl (fun _ => rfl) (fun v7 => ?_)
    refine G_goto (pc := 40) (tgt := 20) h.1 dX9_pressureIn_40 (by decide) ?_
    exact G_sub [1, 2, 0] rfl (hb v7 M5)
set_option maxRecDepth 20000 in
theorem gd_X9_pressureIn_L20 {x : Cx} {y : Cy} (hy : Inj y) (h : OkM x y cX9_pressureIn RX9 3 (some .int) rX9_pressureIn) (a1 : Int32) (kx1 : Mem → Ans) (hx1 : ∀ M0 : Mem, G x y 43 [(0, .ref (y.2.1 143))] [] M0 (kx1 M0)) : ∀ (n : Nat) (a2 : Int32) (M : Mem), G x y 20 [(0, .ref (y.2.1 143)), (1, .int a1), (2, .int a2)] [] M (d_X9_pressureIn_L20 a1 kx1 n a2 M) := by
  intro n
  induction n with
  | zero => intro a2 M; exact G_none
  | succ n ih => intro a2 M; exact gd_X9_pressureIn_L20_body hy h a1 kx1 hx1 _ ih a2 M
set_option maxRecDepth 20000 in
theorem c_X9_pressureIn (l : Launch) (y : Cy) (hy : Inj y) (p1 : Int32) (M : Mem) : CT l y yX9_pressureIn cX9_pressureIn 3 (some .int) rX9_pressureIn [.ref (y.2.1 143), .int p1] M (d_X9_pressureIn p1 M) := by
  refine CT_of (by decide) hy (Nat.le_of_ble_eq_true rfl) (fun x hxl h => ?_)
  show G x y 0 [(0, .ref (y.2.1 143)), (1, .int p1)] [] M _
  unfold d_X9_pressureIn
  refine G_iload_n (pc := 0) h.1 dX9_pressureIn_0 rfl 1 rfl ?_
  refine G_iconst (pc := 1) (v := (0)) h.1 dX9_pressureIn_1 (by decide) ?_
  refine G_sipush (pc := 2) (v := (200)) h.1 dX9_pressureIn_2 (by decide) ?_
  refine G_callS (pc := 5) (As := [.int p1, .int (0 : Int32), .int (200 : Int32)]) (rest := []) h.1 h.2.2.1 lk_X9_52 (c_X9_in x.1.2.1 y hy p1 (0 : Int32) (200 : Int32) M) rfl rfl (Nat.le_of_ble_eq_true rfl) ⟨rfl, rfl, Nat.le_of_ble_eq_true rfl, Nat.le_of_ble_eq_true rfl⟩ dX9_pressureIn_5 (fun r2 M1 => ?_)
  refine G_if_ne (pc := 8) (tgt := 14) h.1 dX9_pressureIn_8 (by decide) ?_ ?_
  · refine G_aload_n (pc := 14) h.1 dX9_pressureIn_14 rfl 0 rfl ?_
    refine G_callVv (pc := 15) (As := []) (rest := []) h.1 h.2.2.1 lk_X9_80 lN143 (eM143 _) rfl rfl (c_X9_begins x.1.2.1 y hy M1) rfl rfl (Nat.le_of_ble_eq_true rfl) ⟨rfl, rfl, Nat.le_of_ble_eq_true rfl, Nat.le_of_ble_eq_true rfl⟩ dX9_pressureIn_15 (fun r4 M3 => ?_)
    refine G_iconst (pc := 18) (v := (1)) h.1 dX9_pressureIn_18 (by decide) ?_
    refine G_istore_n (pc := 19) h.1 h.2.1 [(2, .int (1 : Int32)), (0, .ref (y.2.1 143)), (1, .int p1)] dX9_pressureIn_19 rfl (by decide) rfl ?_
    refine G_sub [1, 2, 0] rfl (gd_X9_pressureIn_L20 hy h p1 _ (fun M8 => ?_) fuelN (1 : Int32) M3)
    refine G_aload_n (pc := 43) h.1 dX9_pressureIn_43 rfl 0 rfl ?_
    refine G_get (pc := 44) (v := .int (M8 143 10)) h.1 fl_X9_66 lN143 (eM143 _) rfl dX9_pressureIn_44 ?_
    exact G_ret (pc := 47) h rfl dX9_pressureIn_47
  · refine G_bipush (pc := 11) (v := (-2)) h.1 dX9_pressureIn_11 (by decide) ?_
    exact G_ret (pc := 13) h rfl dX9_pressureIn_13
theorem dX9_lowestIn_0 : decode cX9_lowestIn 0 = .ok (.iload_n 1, 1) := by decide +kernel
theorem dX9_lowestIn_1 : decode cX9_lowestIn 1 = .ok (.iconst 1, 1) := by decide +kernel
theorem dX9_lowestIn_2 : decode cX9_lowestIn 2 = .ok (.sipush 200, 3) := by decide +kernel
theorem dX9_lowestIn_5 : decode cX9_lowestIn 5 = .ok (.invokestatic 52, 3) := by decide +kernel
theorem dX9_lowestIn_8 : decode cX9_lowestIn 8 = .ok (.ifCond .ne 6, 3) := by decide +kernel
theorem dX9_lowestIn_11 : decode cX9_lowestIn 11 = .ok (.bipush (-2), 2) := by decide +kernel
theorem dX9_lowestIn_13 : decode cX9_lowestIn 13 = .ok (.ireturn, 1) := by decide +kernel
theorem dX9_lowestIn_14 : decode cX9_lowestIn 14 = .ok (.aload_n 0, 1) := by decide +kernel
theorem dX9_lowestIn_15 : decode cX9_lowestIn 15 = .ok (.invokevirtual 80, 3) := by decide +kernel
theorem dX9_lowestIn_18 : decode cX9_lowestIn 18 = .ok (.ldc 69, 2) := by decide +kernel
theorem dX9_lowestIn_20 : decode cX9_lowestIn 20 = .ok (.istore_n 2, 1) := by decide +kernel
theorem dX9_lowestIn_21 : decode cX9_lowestIn 21 = .ok (.iconst 1, 1) := by decide +kernel
theorem dX9_lowestIn_22 : decode cX9_lowestIn 22 = .ok (.istore_n 3, 1) := by decide +kernel
theorem dX9_lowestIn_23 : decode cX9_lowestIn 23 = .ok (.iload_n 3, 1) := by decide +kernel
theorem dX9_lowestIn_24 : decode cX9_lowestIn 24 = .ok (.iload_n 1, 1) := by decide +kernel
theorem dX9_lowestIn_25 : decode cX9_lowestIn 25 = .ok (.if_icmp .gt 38, 3) := by decide +kernel
theorem dX9_lowestIn_28 : decode cX9_lowestIn 28 = .ok (.aload_n 0, 1) := by decide +kernel
theorem dX9_lowestIn_29 : decode cX9_lowestIn 29 = .ok (.aload_n 0, 1) := by decide +kernel
theorem dX9_lowestIn_30 : decode cX9_lowestIn 30 = .ok (.getfield 7, 3) := by decide +kernel
theorem dX9_lowestIn_33 : decode cX9_lowestIn 33 = .ok (.iconst 0, 1) := by decide +kernel
theorem dX9_lowestIn_34 : decode cX9_lowestIn 34 = .ok (.iaload, 1) := by decide +kernel
theorem dX9_lowestIn_35 : decode cX9_lowestIn 35 = .ok (.iload_n 3, 1) := by decide +kernel
theorem dX9_lowestIn_36 : decode cX9_lowestIn 36 = .ok (.iadd, 1) := by decide +kernel
theorem dX9_lowestIn_37 : decode cX9_lowestIn 37 = .ok (.invokevirtual 83, 3) := by decide +kernel
theorem dX9_lowestIn_40 : decode cX9_lowestIn 40 = .ok (.aload_n 0, 1) := by decide +kernel
theorem dX9_lowestIn_41 : decode cX9_lowestIn 41 = .ok (.getfield 66, 3) := by decide +kernel
theorem dX9_lowestIn_44 : decode cX9_lowestIn 44 = .ok (.iload_n 2, 1) := by decide +kernel
theorem dX9_lowestIn_45 : decode cX9_lowestIn 45 = .ok (.if_icmp .ge 10, 3) := by decide +kernel
theorem dX9_lowestIn_48 : decode cX9_lowestIn 48 = .ok (.aload_n 0, 1) := by decide +kernel
theorem dX9_lowestIn_49 : decode cX9_lowestIn 49 = .ok (.getfield 66, 3) := by decide +kernel
theorem dX9_lowestIn_52 : decode cX9_lowestIn 52 = .ok (.goto 4, 3) := by decide +kernel
theorem dX9_lowestIn_55 : decode cX9_lowestIn 55 = .ok (.iload_n 2, 1) := by decide +kernel
theorem dX9_lowestIn_56 : decode cX9_lowestIn 56 = .ok (.istore_n 2, 1) := by decide +kernel
theorem dX9_lowestIn_57 : decode cX9_lowestIn 57 = .ok (.iinc 3 1, 3) := by decide +kernel
theorem dX9_lowestIn_60 : decode cX9_lowestIn 60 = .ok (.goto (-37), 3) := by decide +kernel
theorem dX9_lowestIn_63 : decode cX9_lowestIn 63 = .ok (.iload_n 2, 1) := by decide +kernel
theorem dX9_lowestIn_64 : decode cX9_lowestIn 64 = .ok (.ireturn, 1) := by decide +kernel
abbrev rX9_lowestIn : Room := { frames := 3, cells := 0, slots := 0, locals := 70 }
set_option maxRecDepth 20000 in
theorem gd_X9_lowestIn_B56 {x : Cx} {y : Cy} (hy : Inj y) (h : OkM x y cX9_lowestIn RX9 4 (some .int) rX9_lowestIn) (kx1 : Int32 → Mem → Ans) (kb : Int32 → Int32 → Mem → Ans) (a1 : Int32) (a3 : Int32) (s0 : Int32) (hx1 : ∀ (b2 : Int32), ∀ M0 : Mem, G x y 63 [(2, .int b2)] [] M0 (kx1 b2 M0)) (hb : ∀ (b2 b3 : Int32), ∀ M0 : Mem, G x y 23 [(0, .ref (y.2.1 143)), (1, .int a1), (2, .int b2), (3, .int b3)] [] M0 (kb b2 b3 M0)) (M : Mem) : G x y 56 [(0, .ref (y.2.1 143)), (1, .int a1), (3, .int a3)] [.int s0] M (d_X9_lowestIn_B56 kx1 kb a1 a3 s0 M) := by
  unfold d_X9_lowestIn_B56
  refine G_istore_n (pc := 56) h.1 h.2.1 [(2, .int s0), (0, .ref (y.2.1 143)), (1, .int a1), (3, .int a3)] dX9_lowestIn_56 rfl (by decide) rfl ?_
  refine G_iinc (pc := 57) (v := a3 + (1)) h.1 h.2.1 (fun v7 => [(3, .int v7), (2, .int s0), (0, .ref (y.2.1 143)), (1, .int a1)]) dX9_lowestIn_57 (by decide) 3 rfl rfl (fun _ => rfl) (fun v7 => ?_)
  refine G_goto (pc := 60) (tgt := 23) h.1 dX9_lowestIn_60 (by decide) ?_
  exact G_sub [2, 3, 1, 0] rfl (hb s0 v7 M)
set_option maxRecDepth 20000 in
theorem gd_X9_lowestIn_L23_body {x : Cx} {y : Cy} (hy : Inj y) (h : OkM x y cX9_lowestIn RX9 4 (some .int) rX9_lowestIn) (a1 : Int32) (kx1 : Int32 → Mem → Ans) (hx1 : ∀ (b2 : Int32), ∀ M0 : Mem, G x y 63 [(2, .int b2)] [] M0 (kx1 b2 M0)) (kb : Int32 → Int32 → Mem → Ans) (hb : ∀ (b2 b3 : Int32), ∀ M0 : Mem, G x y 23 [(0, .ref (y.2.1 143)), (1, .int a1), (2, .int b2), (3, .int b3)] [] M0 (kb b2 b3 M0)) (a2 : Int32) (a3 : Int32) (M : Mem) : G x y 23 [(0, .ref (y.2.1 143)), (1, .int a1), (2, .int a2), (3, .int a3)] [] M (d_X9_lowestIn_L23_body a1 kx1 kb a2 a3 M) := by
  unfold d_X9_lowestIn_L23_body
  refine G_iload_n (pc := 23) h.1 dX9_lowestIn_23 rfl 3 rfl ?_
  refine G_iload_n (pc := 24) h.1 dX9_lowestIn_24 rfl 1 rfl ?_
  refine G_icmp_gt (pc := 25) (tgt := 63) h.1 dX9_lowestIn_25 (by decide) ?_ ?_
  · exact G_sub [2] rfl (hx1 a2 M)
  · refine G_aload_n (pc := 28) h.1 dX9_lowestIn_28 rfl 0 rfl ?_
    refine G_aload_n (pc := 29) h.1 dX9_lowestIn_29 rfl 0 rfl ?_
    refine G_get (pc := 30) (v := .ref (y.2.1 144)) h.1 fl_X9_7 lN143 (eM143 _) rfl dX9_lowestIn_30 ?_
    refine G_iconst (pc := 33) (v := (0)) h.1 dX9_lowestIn_33 (by decide) ?_
    refine G_iald (pc := 34) h.1 lN144 (eM144 _) dX9_lowestIn_34 ?_
    refine G_iload_n (pc := 35) h.1 dX9_lowestIn_35 rfl 3 rfl ?_
    refine G_iadd (pc := 36) h.1 dX9_lowestIn_36 ?_
    refine G_callVv (pc := 37) (As := [.int ((M 144 ((0 : Int32)).toNatClampNeg) + a3)]) (rest := []) h.1 h.2.2.1 lk_X9_83 lN143 (eM143 _) rfl rfl (c_X9_foresees x.1.2.1 y hy ((M 144 ((0 : Int32)).toNatClampNeg) + a3) M) rfl rfl (Nat.le_of_ble_eq_true rfl) ⟨rfl, rfl, Nat.le_of_ble_eq_true rfl, Nat.le_of_ble_eq_true rfl⟩ dX9_lowestIn_37 (fun r6 M5 => ?_)
    refine G_aload_n (pc := 40) h.1 dX9_lowestIn_40 rfl 0 rfl ?_
    refine G_get (pc := 41) (v := .int (M5 143 10)) h.1 fl_X9_66 lN143 (eM143 _) rfl dX9_lowestIn_41 ?_
    refine G_iload_n (pc := 44) h.1 dX9_lowestIn_44 rfl 2 rfl ?_
    refine G_icmp_ge (pc := 45) (tgt := 55) h.1 dX9_lowestIn_45 (by decide) ?_ ?_
    · refine G_iload_n (pc := 55) h.1 dX9_lowestIn_55 rfl 2 rfl ?_
      exact G_sub [0, 1, 3] rfl (gd_X9_lowestIn_B56 hy h kx1 kb a1 a3 a2 hx1 hb M5)
    · refine G_aload_n (pc := 48) h.1 dX9_lowestIn_48 rfl 0 rfl ?_
      refine G_get (pc := 49) (v := .int (M5 143 10)) h.1 fl_X9_66 lN143 (eM143 _) rfl dX9_lowestIn_49 ?_
      refine G_goto (pc := 52) (tgt := 56) h.1 dX9_lowestIn_52 (by decide) ?_
      exact G_sub [0, 1, 3] rfl (gd_X9_lowestIn_B56 hy h kx1 kb a1 a3 (M5 143 10) hx1 hb M5)
set_option maxRecDepth 20000 in
theorem gd_X9_lowestIn_L23 {x : Cx} {y : Cy} (hy : Inj y) (h : OkM x y cX9_lowestIn RX9 4 (some .int) rX9_lowestIn) (a1 : Int32) (kx1 : Int32 → Mem → Ans) (hx1 : ∀ (b2 : Int32), ∀ M0 : Mem, G x y 63 [(2, .int b2)] [] M0 (kx1 b2 M0)) : ∀ (n : Nat) (a2 : Int32) (a3 : Int32) (M : Mem), G x y 23 [(0, .ref (y.2.1 143)), (1, .int a1), (2, .int a2), (3, .int a3)] [] M (d_X9_lowestIn_L23 a1 kx1 n a2 a3 M) := by
  intro n
  induction n with
  | zero => intro a2 a3 M; exact G_none
  | succ n ih => intro a2 a3 M; exact gd_X9_lowestIn_L23_body hy h a1 kx1 hx1 _ ih a2 a3 M
set_option maxRecDepth 20000 in
theorem c_X9_lowestIn (l : Launch) (y : Cy) (hy : Inj y) (p1 : Int32) (M : Mem) : CT l y yX9_lowestIn cX9_lowestIn 4 (some .int) rX9_lowestIn [.ref (y.2.1 143), .int p1] M (d_X9_lowestIn p1 M) := by
  refine CT_of (by decide) hy (Nat.le_of_ble_eq_true rfl) (fun x hxl h => ?_)
  show G x y 0 [(0, .ref (y.2.1 143)), (1, .int p1)] [] M _
  unfold d_X9_lowestIn
  refine G_iload_n (pc := 0) h.1 dX9_lowestIn_0 rfl 1 rfl ?_
  refine G_iconst (pc := 1) (v := (1)) h.1 dX9_lowestIn_1 (by decide) ?_
  refine G_sipush (pc := 2) (v := (200)) h.1 dX9_lowestIn_2 (by decide) ?_
  refine G_callS (pc := 5) (As := [.int p1, .int (1 : Int32), .int (200 : Int32)]) (rest := []) h.1 h.2.2.1 lk_X9_52 (c_X9_in x.1.2.1 y hy p1 (1 : Int32) (200 : Int32) M) rfl rfl (Nat.le_of_ble_eq_true rfl) ⟨rfl, rfl, Nat.le_of_ble_eq_true rfl, Nat.le_of_ble_eq_true rfl⟩ dX9_lowestIn_5 (fun r2 M1 => ?_)
  refine G_if_ne (pc := 8) (tgt := 14) h.1 dX9_lowestIn_8 (by decide) ?_ ?_
  · refine G_aload_n (pc := 14) h.1 dX9_lowestIn_14 rfl 0 rfl ?_
    refine G_callVv (pc := 15) (As := []) (rest := []) h.1 h.2.2.1 lk_X9_80 lN143 (eM143 _) rfl rfl (c_X9_begins x.1.2.1 y hy M1) rfl rfl (Nat.le_of_ble_eq_true rfl) ⟨rfl, rfl, Nat.le_of_ble_eq_true rfl, Nat.le_of_ble_eq_true rfl⟩ dX9_lowestIn_15 (fun r4 M3 => ?_)
    refine G_ldc (pc := 18) h.1 dX9_lowestIn_18 ct_X9_69 ?_
    refine G_istore_n (pc := 20) h.1 h.2.1 [(2, .int (99999 : Int32)), (0, .ref (y.2.1 143)), (1, .int p1)] dX9_lowestIn_20 rfl (by decide) rfl ?_
    refine G_iconst (pc := 21) (v := (1)) h.1 dX9_lowestIn_21 (by decide) ?_
    refine G_istore_n (pc := 22) h.1 h.2.1 [(3, .int (1 : Int32)), (2, .int (99999 : Int32)), (0, .ref (y.2.1 143)), (1, .int p1)] dX9_lowestIn_22 rfl (by decide) rfl ?_
    refine G_sub [2, 3, 1, 0] rfl (gd_X9_lowestIn_L23 hy h p1 _ (fun v8 M9 => ?_) fuelN (99999 : Int32) (1 : Int32) M3)
    refine G_iload_n (pc := 63) h.1 dX9_lowestIn_63 rfl 0 rfl ?_
    exact G_ret (pc := 64) h rfl dX9_lowestIn_64
  · refine G_bipush (pc := 11) (v := (-2)) h.1 dX9_lowestIn_11 (by decide) ?_
    exact G_ret (pc := 13) h rfl dX9_lowestIn_13
theorem dX9_why_0 : decode cX9_why 0 = .ok (.iload_n 1, 1) := by decide +kernel
theorem dX9_why_1 : decode cX9_why 1 = .ok (.invokestatic 114, 3) := by decide +kernel
theorem dX9_why_4 : decode cX9_why 4 = .ok (.ifCond .ne 11, 3) := by decide +kernel
theorem dX9_why_7 : decode cX9_why 7 = .ok (.aload_n 0, 1) := by decide +kernel
theorem dX9_why_8 : decode cX9_why 8 = .ok (.iload_n 2, 1) := by decide +kernel
theorem dX9_why_9 : decode cX9_why 9 = .ok (.invokevirtual 118, 3) := by decide +kernel
theorem dX9_why_12 : decode cX9_why 12 = .ok (.ifCond .eq 5, 3) := by decide +kernel
theorem dX9_why_15 : decode cX9_why 15 = .ok (.iconst (-1), 1) := by decide +kernel
theorem dX9_why_16 : decode cX9_why 16 = .ok (.ireturn, 1) := by decide +kernel
theorem dX9_why_17 : decode cX9_why 17 = .ok (.aload_n 0, 1) := by decide +kernel
theorem dX9_why_18 : decode cX9_why 18 = .ok (.iload_n 3, 1) := by decide +kernel
theorem dX9_why_19 : decode cX9_why 19 = .ok (.invokevirtual 121, 3) := by decide +kernel
theorem dX9_why_22 : decode cX9_why 22 = .ok (.ifCond .eq 13, 3) := by decide +kernel
theorem dX9_why_25 : decode cX9_why 25 = .ok (.iload 4, 2) := by decide +kernel
theorem dX9_why_27 : decode cX9_why 27 = .ok (.iconst 0, 1) := by decide +kernel
theorem dX9_why_28 : decode cX9_why 28 = .ok (.iconst 2, 1) := by decide +kernel
theorem dX9_why_29 : decode cX9_why 29 = .ok (.invokestatic 52, 3) := by decide +kernel
theorem dX9_why_32 : decode cX9_why 32 = .ok (.ifCond .ne 6, 3) := by decide +kernel
theorem dX9_why_35 : decode cX9_why 35 = .ok (.bipush (-2), 2) := by decide +kernel
theorem dX9_why_37 : decode cX9_why 37 = .ok (.ireturn, 1) := by decide +kernel
theorem dX9_why_38 : decode cX9_why 38 = .ok (.aload_n 0, 1) := by decide +kernel
theorem dX9_why_39 : decode cX9_why 39 = .ok (.iconst (-1), 1) := by decide +kernel
theorem dX9_why_40 : decode cX9_why 40 = .ok (.invokevirtual 124, 3) := by decide +kernel
theorem dX9_why_43 : decode cX9_why 43 = .ok (.aload_n 0, 1) := by decide +kernel
theorem dX9_why_44 : decode cX9_why 44 = .ok (.iload_n 1, 1) := by decide +kernel
theorem dX9_why_45 : decode cX9_why 45 = .ok (.iload_n 2, 1) := by decide +kernel
theorem dX9_why_46 : decode cX9_why 46 = .ok (.iload_n 3, 1) := by decide +kernel
theorem dX9_why_47 : decode cX9_why 47 = .ok (.iconst (-1), 1) := by decide +kernel
theorem dX9_why_48 : decode cX9_why 48 = .ok (.invokevirtual 100, 3) := by decide +kernel
theorem dX9_why_51 : decode cX9_why 51 = .ok (.istore 5, 2) := by decide +kernel
theorem dX9_why_53 : decode cX9_why 53 = .ok (.iload 4, 2) := by decide +kernel
theorem dX9_why_55 : decode cX9_why 55 = .ok (.ifCond .ne 6, 3) := by decide +kernel
theorem dX9_why_58 : decode cX9_why 58 = .ok (.iload 5, 2) := by decide +kernel
theorem dX9_why_60 : decode cX9_why 60 = .ok (.ireturn, 1) := by decide +kernel
theorem dX9_why_61 : decode cX9_why 61 = .ok (.iload 5, 2) := by decide +kernel
theorem dX9_why_63 : decode cX9_why 63 = .ok (.iconst 1, 1) := by decide +kernel
theorem dX9_why_64 : decode cX9_why 64 = .ok (.if_icmp .ne 28, 3) := by decide +kernel
theorem dX9_why_67 : decode cX9_why 67 = .ok (.iload 4, 2) := by decide +kernel
theorem dX9_why_69 : decode cX9_why 69 = .ok (.iconst 1, 1) := by decide +kernel
theorem dX9_why_70 : decode cX9_why 70 = .ok (.if_icmp .ne 19, 3) := by decide +kernel
theorem dX9_why_73 : decode cX9_why 73 = .ok (.aload_n 0, 1) := by decide +kernel
theorem dX9_why_74 : decode cX9_why 74 = .ok (.iload_n 1, 1) := by decide +kernel
theorem dX9_why_75 : decode cX9_why 75 = .ok (.iload_n 3, 1) := by decide +kernel
theorem dX9_why_76 : decode cX9_why 76 = .ok (.aload_n 0, 1) := by decide +kernel
theorem dX9_why_77 : decode cX9_why 77 = .ok (.iload_n 2, 1) := by decide +kernel
theorem dX9_why_78 : decode cX9_why 78 = .ok (.iload_n 3, 1) := by decide +kernel
theorem dX9_why_79 : decode cX9_why 79 = .ok (.invokevirtual 90, 3) := by decide +kernel
theorem dX9_why_82 : decode cX9_why 82 = .ok (.iconst (-1), 1) := by decide +kernel
theorem dX9_why_83 : decode cX9_why 83 = .ok (.invokevirtual 93, 3) := by decide +kernel
theorem dX9_why_86 : decode cX9_why 86 = .ok (.goto 5, 3) := by decide +kernel
theorem dX9_why_89 : decode cX9_why 89 = .ok (.bipush (-5), 2) := by decide +kernel
theorem dX9_why_91 : decode cX9_why 91 = .ok (.ireturn, 1) := by decide +kernel
theorem dX9_why_92 : decode cX9_why 92 = .ok (.iload 5, 2) := by decide +kernel
theorem dX9_why_94 : decode cX9_why 94 = .ok (.iconst 2, 1) := by decide +kernel
theorem dX9_why_95 : decode cX9_why 95 = .ok (.if_icmp .ne 22, 3) := by decide +kernel
theorem dX9_why_98 : decode cX9_why 98 = .ok (.iload 4, 2) := by decide +kernel
theorem dX9_why_100 : decode cX9_why 100 = .ok (.iconst 2, 1) := by decide +kernel
theorem dX9_why_101 : decode cX9_why 101 = .ok (.if_icmp .ne 13, 3) := by decide +kernel
theorem dX9_why_104 : decode cX9_why 104 = .ok (.aload_n 0, 1) := by decide +kernel
theorem dX9_why_105 : decode cX9_why 105 = .ok (.getfield 25, 3) := by decide +kernel
theorem dX9_why_108 : decode cX9_why 108 = .ok (.bipush 60, 2) := by decide +kernel
theorem dX9_why_110 : decode cX9_why 110 = .ok (.iaload, 1) := by decide +kernel
theorem dX9_why_111 : decode cX9_why 111 = .ok (.goto 5, 3) := by decide +kernel
theorem dX9_why_114 : decode cX9_why 114 = .ok (.bipush (-5), 2) := by decide +kernel
theorem dX9_why_116 : decode cX9_why 116 = .ok (.ireturn, 1) := by decide +kernel
theorem dX9_why_117 : decode cX9_why 117 = .ok (.iload 5, 2) := by decide +kernel
theorem dX9_why_119 : decode cX9_why 119 = .ok (.ifCond .ne 8, 3) := by decide +kernel
theorem dX9_why_122 : decode cX9_why 122 = .ok (.bipush (-5), 2) := by decide +kernel
theorem dX9_why_124 : decode cX9_why 124 = .ok (.goto 25, 3) := by decide +kernel
theorem dX9_why_127 : decode cX9_why 127 = .ok (.iload 4, 2) := by decide +kernel
theorem dX9_why_129 : decode cX9_why 129 = .ok (.iconst 1, 1) := by decide +kernel
theorem dX9_why_130 : decode cX9_why 130 = .ok (.if_icmp .ne 10, 3) := by decide +kernel
theorem dX9_why_133 : decode cX9_why 133 = .ok (.aload_n 0, 1) := by decide +kernel
theorem dX9_why_134 : decode cX9_why 134 = .ok (.getfield 97, 3) := by decide +kernel
theorem dX9_why_137 : decode cX9_why 137 = .ok (.goto 12, 3) := by decide +kernel
theorem dX9_why_140 : decode cX9_why 140 = .ok (.aload_n 0, 1) := by decide +kernel
theorem dX9_why_141 : decode cX9_why 141 = .ok (.getfield 25, 3) := by decide +kernel
theorem dX9_why_144 : decode cX9_why 144 = .ok (.aload_n 0, 1) := by decide +kernel
theorem dX9_why_145 : decode cX9_why 145 = .ok (.getfield 97, 3) := by decide +kernel
theorem dX9_why_148 : decode cX9_why 148 = .ok (.iaload, 1) := by decide +kernel
theorem dX9_why_149 : decode cX9_why 149 = .ok (.ireturn, 1) := by decide +kernel
abbrev rX9_why : Room := { frames := 5, cells := 0, slots := 0, locals := 117 }
set_option maxRecDepth 20000 in
theorem c_X9_why (l : Launch) (y : Cy) (hy : Inj y) (p1 : Int32) (p2 : Int32) (p3 : Int32) (p4 : Int32) (M : Mem) : CT l y yX9_why cX9_why 6 (some .int) rX9_why [.ref (y.2.1 143), .int p1, .int p2, .int p3, .int p4] M (d_X9_why p1 p2 p3 p4 M) := by
  refine CT_of (by decide) hy (Nat.le_of_ble_eq_true rfl) (fun x hxl h => ?_)
  show G x y 0 [(0, .ref (y.2.1 143)), (1, .int p1), (2, .int p2), (3, .int p3), (4, .int p4)] [] M _
  unfold d_X9_why
  refine G_iload_n (pc := 0) h.1 dX9_why_0 rfl 1 rfl ?_
  refine G_callS (pc := 1) (As := [.int p1]) (rest := []) h.1 h.2.2.1 lk_X9_114 (c_X9_noRobot x.1.2.1 y hy p1 M) rfl rfl (Nat.le_of_ble_eq_true rfl) ⟨rfl, rfl, Nat.le_of_ble_eq_true rfl, Nat.le_of_ble_eq_true rfl⟩ dX9_why_1 (fun r2 M1 => ?_)
  refine G_if_ne (pc := 4) (tgt := 15) h.1 dX9_why_4 (by decide) ?_ ?_
  · refine G_iconst (pc := 15) (v := (-1)) h.1 dX9_why_15 (by decide) ?_
    exact G_ret (pc := 16) h rfl dX9_why_16
  · refine G_aload_n (pc := 7) h.1 dX9_why_7 rfl 0 rfl ?_
    refine G_iload_n (pc := 8) h.1 dX9_why_8 rfl 2 rfl ?_
    refine G_callV (pc := 9) (As := [.int p2]) (rest := []) h.1 h.2.2.1 lk_X9_118 lN143 (eM143 _) rfl rfl (c_X9_noRecipe x.1.2.1 y hy p2 M1) rfl rfl (Nat.le_of_ble_eq_true rfl) ⟨rfl, rfl, Nat.le_of_ble_eq_true rfl, Nat.le_of_ble_eq_true rfl⟩ dX9_why_9 (fun r4 M3 => ?_)
    refine G_if_eq (pc := 12) (tgt := 17) h.1 dX9_why_12 (by decide) ?_ ?_
    · refine G_aload_n (pc := 17) h.1 dX9_why_17 rfl 0 rfl ?_
      refine G_iload_n (pc := 18) h.1 dX9_why_18 rfl 3 rfl ?_
      refine G_callV (pc := 19) (As := [.int p3]) (rest := []) h.1 h.2.2.1 lk_X9_121 lN143 (eM143 _) rfl rfl (c_X9_isStart x.1.2.1 y hy p3 M3) rfl rfl (Nat.le_of_ble_eq_true rfl) ⟨rfl, rfl, Nat.le_of_ble_eq_true rfl, Nat.le_of_ble_eq_true rfl⟩ dX9_why_19 (fun r6 M5 => ?_)
      refine G_if_eq (pc := 22) (tgt := 35) h.1 dX9_why_22 (by decide) ?_ ?_
      · refine G_bipush (pc := 35) (v := (-2)) h.1 dX9_why_35 (by decide) ?_
        exact G_ret (pc := 37) h rfl dX9_why_37
      · refine G_iload (pc := 25) h.1 dX9_why_25 4 rfl ?_
        refine G_iconst (pc := 27) (v := (0)) h.1 dX9_why_27 (by decide) ?_
        refine G_iconst (pc := 28) (v := (2)) h.1 dX9_why_28 (by decide) ?_
        refine G_callS (pc := 29) (As := [.int p4, .int (0 : Int32), .int (2 : Int32)]) (rest := []) h.1 h.2.2.1 lk_X9_52 (c_X9_in x.1.2.1 y hy p4 (0 : Int32) (2 : Int32) M5) rfl rfl (Nat.le_of_ble_eq_true rfl) ⟨rfl, rfl, Nat.le_of_ble_eq_true rfl, Nat.le_of_ble_eq_true rfl⟩ dX9_why_29 (fun r8 M7 => ?_)
        refine G_if_ne (pc := 32) (tgt := 38) h.1 dX9_why_32 (by decide) ?_ ?_
        · refine G_aload_n (pc := 38) h.1 dX9_why_38 rfl 0 rfl ?_
          refine G_iconst (pc := 39) (v := (-1)) h.1 dX9_why_39 (by decide) ?_
          refine G_callVv (pc := 40) (As := [.int (-1 : Int32)]) (rest := []) h.1 h.2.2.1 lk_X9_124 lN143 (eM143 _) rfl rfl (c_X9_bases x.1.2.1 y hy (-1 : Int32) M7) rfl rfl (Nat.le_of_ble_eq_true rfl) ⟨rfl, rfl, Nat.le_of_ble_eq_true rfl, Nat.le_of_ble_eq_true rfl⟩ dX9_why_40 (fun r10 M9 => ?_)
          refine G_aload_n (pc := 43) h.1 dX9_why_43 rfl 0 rfl ?_
          refine G_iload_n (pc := 44) h.1 dX9_why_44 rfl 1 rfl ?_
          refine G_iload_n (pc := 45) h.1 dX9_why_45 rfl 2 rfl ?_
          refine G_iload_n (pc := 46) h.1 dX9_why_46 rfl 3 rfl ?_
          refine G_iconst (pc := 47) (v := (-1)) h.1 dX9_why_47 (by decide) ?_
          refine G_callV (pc := 48) (As := [.int p1, .int p2, .int p3, .int (-1 : Int32)]) (rest := []) h.1 h.2.2.1 lk_X9_100 lN143 (eM143 _) rfl rfl (c_X9_reason x.1.2.1 y hy p1 p2 p3 (-1 : Int32) M9) rfl rfl (Nat.le_of_ble_eq_true rfl) ⟨rfl, rfl, Nat.le_of_ble_eq_true rfl, Nat.le_of_ble_eq_true rfl⟩ dX9_why_48 (fun r12 M11 => ?_)
          refine G_istore (pc := 51) h.1 h.2.1 [(5, .int r12), (0, .ref (y.2.1 143)), (1, .int p1), (2, .int p2), (3, .int p3), (4, .int p4)] dX9_why_51 (by decide) rfl ?_
          refine G_iload (pc := 53) h.1 dX9_why_53 5 rfl ?_
          refine G_if_ne (pc := 55) (tgt := 61) h.1 dX9_why_55 (by decide) ?_ ?_
          · refine G_iload (pc := 61) h.1 dX9_why_61 0 rfl ?_
            refine G_iconst (pc := 63) (v := (1)) h.1 dX9_why_63 (by decide) ?_
            refine G_icmp_ne (pc := 64) (tgt := 92) h.1 dX9_why_64 (by decide) ?_ ?_
            · refine G_iload (pc := 92) h.1 dX9_why_92 0 rfl ?_
              refine G_iconst (pc := 94) (v := (2)) h.1 dX9_why_94 (by decide) ?_
              refine G_icmp_ne (pc := 95) (tgt := 117) h.1 dX9_why_95 (by decide) ?_ ?_
              · refine G_iload (pc := 117) h.1 dX9_why_117 0 rfl ?_
                refine G_if_ne (pc := 119) (tgt := 127) h.1 dX9_why_119 (by decide) ?_ ?_
                · refine G_iload (pc := 127) h.1 dX9_why_127 5 rfl ?_
                  refine G_iconst (pc := 129) (v := (1)) h.1 dX9_why_129 (by decide) ?_
                  refine G_icmp_ne (pc := 130) (tgt := 140) h.1 dX9_why_130 (by decide) ?_ ?_
                  · refine G_aload_n (pc := 140) h.1 dX9_why_140 rfl 1 rfl ?_
                    refine G_get (pc := 141) (v := .ref (y.2.1 149)) h.1 fl_X9_25 lN143 (eM143 _) rfl dX9_why_141 ?_
                    refine G_aload_n (pc := 144) h.1 dX9_why_144 rfl 1 rfl ?_
                    refine G_get (pc := 145) (v := .int (M11 143 16)) h.1 fl_X9_97 lN143 (eM143 _) rfl dX9_why_145 ?_
                    refine G_iald (pc := 148) h.1 lN149 (eM149 _) dX9_why_148 ?_
                    exact G_ret (pc := 149) h rfl dX9_why_149
                  · refine G_aload_n (pc := 133) h.1 dX9_why_133 rfl 1 rfl ?_
                    refine G_get (pc := 134) (v := .int (M11 143 16)) h.1 fl_X9_97 lN143 (eM143 _) rfl dX9_why_134 ?_
                    refine G_goto (pc := 137) (tgt := 149) h.1 dX9_why_137 (by decide) ?_
                    exact G_ret (pc := 149) h rfl dX9_why_149
                · refine G_bipush (pc := 122) (v := (-5)) h.1 dX9_why_122 (by decide) ?_
                  refine G_goto (pc := 124) (tgt := 149) h.1 dX9_why_124 (by decide) ?_
                  exact G_ret (pc := 149) h rfl dX9_why_149
              · refine G_iload (pc := 98) h.1 dX9_why_98 5 rfl ?_
                refine G_iconst (pc := 100) (v := (2)) h.1 dX9_why_100 (by decide) ?_
                refine G_icmp_ne (pc := 101) (tgt := 114) h.1 dX9_why_101 (by decide) ?_ ?_
                · refine G_bipush (pc := 114) (v := (-5)) h.1 dX9_why_114 (by decide) ?_
                  exact G_ret (pc := 116) h rfl dX9_why_116
                · refine G_aload_n (pc := 104) h.1 dX9_why_104 rfl 1 rfl ?_
                  refine G_get (pc := 105) (v := .ref (y.2.1 149)) h.1 fl_X9_25 lN143 (eM143 _) rfl dX9_why_105 ?_
                  refine G_bipush (pc := 108) (v := (60)) h.1 dX9_why_108 (by decide) ?_
                  refine G_iald (pc := 110) h.1 lN149 (eM149 _) dX9_why_110 ?_
                  refine G_goto (pc := 111) (tgt := 116) h.1 dX9_why_111 (by decide) ?_
                  exact G_ret (pc := 116) h rfl dX9_why_116
            · refine G_iload (pc := 67) h.1 dX9_why_67 5 rfl ?_
              refine G_iconst (pc := 69) (v := (1)) h.1 dX9_why_69 (by decide) ?_
              refine G_icmp_ne (pc := 70) (tgt := 89) h.1 dX9_why_70 (by decide) ?_ ?_
              · refine G_bipush (pc := 89) (v := (-5)) h.1 dX9_why_89 (by decide) ?_
                exact G_ret (pc := 91) h rfl dX9_why_91
              · refine G_aload_n (pc := 73) h.1 dX9_why_73 rfl 1 rfl ?_
                refine G_iload_n (pc := 74) h.1 dX9_why_74 rfl 2 rfl ?_
                refine G_iload_n (pc := 75) h.1 dX9_why_75 rfl 4 rfl ?_
                refine G_aload_n (pc := 76) h.1 dX9_why_76 rfl 1 rfl ?_
                refine G_iload_n (pc := 77) h.1 dX9_why_77 rfl 3 rfl ?_
                refine G_iload_n (pc := 78) h.1 dX9_why_78 rfl 4 rfl ?_
                refine G_callV (pc := 79) (As := [.int p2, .int p3]) (rest := [.int p3, .int p1, .ref (y.2.1 143)]) h.1 h.2.2.1 lk_X9_90 lN143 (eM143 _) rfl rfl (c_X9_last x.1.2.1 y hy p2 p3 M11) rfl rfl (Nat.le_of_ble_eq_true rfl) ⟨rfl, rfl, Nat.le_of_ble_eq_true rfl, Nat.le_of_ble_eq_true rfl⟩ dX9_why_79 (fun r14 M13 => ?_)
                refine G_iconst (pc := 82) (v := (-1)) h.1 dX9_why_82 (by decide) ?_
                refine G_callV (pc := 83) (As := [.int p1, .int p3, .int r14, .int (-1 : Int32)]) (rest := []) h.1 h.2.2.1 lk_X9_93 lN143 (eM143 _) rfl rfl (c_X9_keeper x.1.2.1 y hy p1 p3 r14 (-1 : Int32) M13) rfl rfl (Nat.le_of_ble_eq_true rfl) ⟨rfl, rfl, Nat.le_of_ble_eq_true rfl, Nat.le_of_ble_eq_true rfl⟩ dX9_why_83 (fun r16 M15 => ?_)
                refine G_goto (pc := 86) (tgt := 91) h.1 dX9_why_86 (by decide) ?_
                exact G_ret (pc := 91) h rfl dX9_why_91
          · refine G_iload (pc := 58) h.1 dX9_why_58 0 rfl ?_
            exact G_ret (pc := 60) h rfl dX9_why_60
        · refine G_bipush (pc := 35) (v := (-2)) h.1 dX9_why_35 (by decide) ?_
          exact G_ret (pc := 37) h rfl dX9_why_37
    · refine G_iconst (pc := 15) (v := (-1)) h.1 dX9_why_15 (by decide) ?_
      exact G_ret (pc := 16) h rfl dX9_why_16
theorem dX9_earliest_0 : decode cX9_earliest 0 = .ok (.iload_n 1, 1) := by decide +kernel
theorem dX9_earliest_1 : decode cX9_earliest 1 = .ok (.invokestatic 114, 3) := by decide +kernel
theorem dX9_earliest_4 : decode cX9_earliest 4 = .ok (.ifCond .ne 11, 3) := by decide +kernel
theorem dX9_earliest_7 : decode cX9_earliest 7 = .ok (.aload_n 0, 1) := by decide +kernel
theorem dX9_earliest_8 : decode cX9_earliest 8 = .ok (.iload_n 2, 1) := by decide +kernel
theorem dX9_earliest_9 : decode cX9_earliest 9 = .ok (.invokevirtual 118, 3) := by decide +kernel
theorem dX9_earliest_12 : decode cX9_earliest 12 = .ok (.ifCond .eq 5, 3) := by decide +kernel
theorem dX9_earliest_15 : decode cX9_earliest 15 = .ok (.iconst (-1), 1) := by decide +kernel
theorem dX9_earliest_16 : decode cX9_earliest 16 = .ok (.ireturn, 1) := by decide +kernel
theorem dX9_earliest_17 : decode cX9_earliest 17 = .ok (.aload_n 0, 1) := by decide +kernel
theorem dX9_earliest_18 : decode cX9_earliest 18 = .ok (.iload_n 3, 1) := by decide +kernel
theorem dX9_earliest_19 : decode cX9_earliest 19 = .ok (.invokevirtual 121, 3) := by decide +kernel
theorem dX9_earliest_22 : decode cX9_earliest 22 = .ok (.ifCond .ne 6, 3) := by decide +kernel
theorem dX9_earliest_25 : decode cX9_earliest 25 = .ok (.bipush (-2), 2) := by decide +kernel
theorem dX9_earliest_27 : decode cX9_earliest 27 = .ok (.ireturn, 1) := by decide +kernel
theorem dX9_earliest_28 : decode cX9_earliest 28 = .ok (.aload_n 0, 1) := by decide +kernel
theorem dX9_earliest_29 : decode cX9_earliest 29 = .ok (.iconst (-1), 1) := by decide +kernel
theorem dX9_earliest_30 : decode cX9_earliest 30 = .ok (.invokevirtual 124, 3) := by decide +kernel
theorem dX9_earliest_33 : decode cX9_earliest 33 = .ok (.aload_n 0, 1) := by decide +kernel
theorem dX9_earliest_34 : decode cX9_earliest 34 = .ok (.iload_n 1, 1) := by decide +kernel
theorem dX9_earliest_35 : decode cX9_earliest 35 = .ok (.iload_n 2, 1) := by decide +kernel
theorem dX9_earliest_36 : decode cX9_earliest 36 = .ok (.iload_n 3, 1) := by decide +kernel
theorem dX9_earliest_37 : decode cX9_earliest 37 = .ok (.aload_n 0, 1) := by decide +kernel
theorem dX9_earliest_38 : decode cX9_earliest 38 = .ok (.getfield 7, 3) := by decide +kernel
theorem dX9_earliest_41 : decode cX9_earliest 41 = .ok (.iconst 0, 1) := by decide +kernel
theorem dX9_earliest_42 : decode cX9_earliest 42 = .ok (.iaload, 1) := by decide +kernel
theorem dX9_earliest_43 : decode cX9_earliest 43 = .ok (.bipush 60, 2) := by decide +kernel
theorem dX9_earliest_45 : decode cX9_earliest 45 = .ok (.iadd, 1) := by decide +kernel
theorem dX9_earliest_46 : decode cX9_earliest 46 = .ok (.iconst (-1), 1) := by decide +kernel
theorem dX9_earliest_47 : decode cX9_earliest 47 = .ok (.invokevirtual 134, 3) := by decide +kernel
theorem dX9_earliest_50 : decode cX9_earliest 50 = .ok (.ireturn, 1) := by decide +kernel
abbrev rX9_earliest : Room := { frames := 6, cells := 0, slots := 0, locals := 145 }
set_option maxRecDepth 20000 in
theorem c_X9_earliest (l : Launch) (y : Cy) (hy : Inj y) (p1 : Int32) (p2 : Int32) (p3 : Int32) (M : Mem) : CT l y yX9_earliest cX9_earliest 4 (some .int) rX9_earliest [.ref (y.2.1 143), .int p1, .int p2, .int p3] M (d_X9_earliest p1 p2 p3 M) := by
  refine CT_of (by decide) hy (Nat.le_of_ble_eq_true rfl) (fun x hxl h => ?_)
  show G x y 0 [(0, .ref (y.2.1 143)), (1, .int p1), (2, .int p2), (3, .int p3)] [] M _
  unfold d_X9_earliest
  refine G_iload_n (pc := 0) h.1 dX9_earliest_0 rfl 1 rfl ?_
  refine G_callS (pc := 1) (As := [.int p1]) (rest := []) h.1 h.2.2.1 lk_X9_114 (c_X9_noRobot x.1.2.1 y hy p1 M) rfl rfl (Nat.le_of_ble_eq_true rfl) ⟨rfl, rfl, Nat.le_of_ble_eq_true rfl, Nat.le_of_ble_eq_true rfl⟩ dX9_earliest_1 (fun r2 M1 => ?_)
  refine G_if_ne (pc := 4) (tgt := 15) h.1 dX9_earliest_4 (by decide) ?_ ?_
  · refine G_iconst (pc := 15) (v := (-1)) h.1 dX9_earliest_15 (by decide) ?_
    exact G_ret (pc := 16) h rfl dX9_earliest_16
  · refine G_aload_n (pc := 7) h.1 dX9_earliest_7 rfl 0 rfl ?_
    refine G_iload_n (pc := 8) h.1 dX9_earliest_8 rfl 2 rfl ?_
    refine G_callV (pc := 9) (As := [.int p2]) (rest := []) h.1 h.2.2.1 lk_X9_118 lN143 (eM143 _) rfl rfl (c_X9_noRecipe x.1.2.1 y hy p2 M1) rfl rfl (Nat.le_of_ble_eq_true rfl) ⟨rfl, rfl, Nat.le_of_ble_eq_true rfl, Nat.le_of_ble_eq_true rfl⟩ dX9_earliest_9 (fun r4 M3 => ?_)
    refine G_if_eq (pc := 12) (tgt := 17) h.1 dX9_earliest_12 (by decide) ?_ ?_
    · refine G_aload_n (pc := 17) h.1 dX9_earliest_17 rfl 0 rfl ?_
      refine G_iload_n (pc := 18) h.1 dX9_earliest_18 rfl 3 rfl ?_
      refine G_callV (pc := 19) (As := [.int p3]) (rest := []) h.1 h.2.2.1 lk_X9_121 lN143 (eM143 _) rfl rfl (c_X9_isStart x.1.2.1 y hy p3 M3) rfl rfl (Nat.le_of_ble_eq_true rfl) ⟨rfl, rfl, Nat.le_of_ble_eq_true rfl, Nat.le_of_ble_eq_true rfl⟩ dX9_earliest_19 (fun r6 M5 => ?_)
      refine G_if_ne (pc := 22) (tgt := 28) h.1 dX9_earliest_22 (by decide) ?_ ?_
      · refine G_aload_n (pc := 28) h.1 dX9_earliest_28 rfl 0 rfl ?_
        refine G_iconst (pc := 29) (v := (-1)) h.1 dX9_earliest_29 (by decide) ?_
        refine G_callVv (pc := 30) (As := [.int (-1 : Int32)]) (rest := []) h.1 h.2.2.1 lk_X9_124 lN143 (eM143 _) rfl rfl (c_X9_bases x.1.2.1 y hy (-1 : Int32) M5) rfl rfl (Nat.le_of_ble_eq_true rfl) ⟨rfl, rfl, Nat.le_of_ble_eq_true rfl, Nat.le_of_ble_eq_true rfl⟩ dX9_earliest_30 (fun r8 M7 => ?_)
        refine G_aload_n (pc := 33) h.1 dX9_earliest_33 rfl 0 rfl ?_
        refine G_iload_n (pc := 34) h.1 dX9_earliest_34 rfl 1 rfl ?_
        refine G_iload_n (pc := 35) h.1 dX9_earliest_35 rfl 2 rfl ?_
        refine G_iload_n (pc := 36) h.1 dX9_earliest_36 rfl 3 rfl ?_
        refine G_aload_n (pc := 37) h.1 dX9_earliest_37 rfl 0 rfl ?_
        refine G_get (pc := 38) (v := .ref (y.2.1 144)) h.1 fl_X9_7 lN143 (eM143 _) rfl dX9_earliest_38 ?_
        refine G_iconst (pc := 41) (v := (0)) h.1 dX9_earliest_41 (by decide) ?_
        refine G_iald (pc := 42) h.1 lN144 (eM144 _) dX9_earliest_42 ?_
        refine G_bipush (pc := 43) (v := (60)) h.1 dX9_earliest_43 (by decide) ?_
        refine G_iadd (pc := 45) h.1 dX9_earliest_45 ?_
        refine G_iconst (pc := 46) (v := (-1)) h.1 dX9_earliest_46 (by decide) ?_
        refine G_callV (pc := 47) (As := [.int p1, .int p2, .int p3, .int ((M7 144 ((0 : Int32)).toNatClampNeg) + (60 : Int32)), .int (-1 : Int32)]) (rest := []) h.1 h.2.2.1 lk_X9_134 lN143 (eM143 _) rfl rfl (c_X9_first x.1.2.1 y hy p1 p2 p3 ((M7 144 ((0 : Int32)).toNatClampNeg) + (60 : Int32)) (-1 : Int32) M7) rfl rfl (Nat.le_of_ble_eq_true rfl) ⟨rfl, rfl, Nat.le_of_ble_eq_true rfl, Nat.le_of_ble_eq_true rfl⟩ dX9_earliest_47 (fun r10 M9 => ?_)
        exact G_ret (pc := 50) h rfl dX9_earliest_50
      · refine G_bipush (pc := 25) (v := (-2)) h.1 dX9_earliest_25 (by decide) ?_
        exact G_ret (pc := 27) h rfl dX9_earliest_27
    · refine G_iconst (pc := 15) (v := (-1)) h.1 dX9_earliest_15 (by decide) ?_
      exact G_ret (pc := 16) h rfl dX9_earliest_16
theorem dX9_count_0 : decode cX9_count 0 = .ok (.iload_n 1, 1) := by decide +kernel
theorem dX9_count_1 : decode cX9_count 1 = .ok (.tableswitch 191 0 17 #[87, 94, 101, 108, 115, 122, 129, 129, 129, 129, 129, 144, 149, 157, 165, 173, 181, 186], 87) := by decide +kernel
theorem dX9_count_88 : decode cX9_count 88 = .ok (.aload_n 0, 1) := by decide +kernel
theorem dX9_count_89 : decode cX9_count 89 = .ok (.getfield 7, 3) := by decide +kernel
theorem dX9_count_92 : decode cX9_count 92 = .ok (.iconst 0, 1) := by decide +kernel
theorem dX9_count_93 : decode cX9_count 93 = .ok (.iaload, 1) := by decide +kernel
theorem dX9_count_94 : decode cX9_count 94 = .ok (.ireturn, 1) := by decide +kernel
theorem dX9_count_95 : decode cX9_count 95 = .ok (.aload_n 0, 1) := by decide +kernel
theorem dX9_count_96 : decode cX9_count 96 = .ok (.getfield 7, 3) := by decide +kernel
theorem dX9_count_99 : decode cX9_count 99 = .ok (.iconst 1, 1) := by decide +kernel
theorem dX9_count_100 : decode cX9_count 100 = .ok (.iaload, 1) := by decide +kernel
theorem dX9_count_101 : decode cX9_count 101 = .ok (.ireturn, 1) := by decide +kernel
theorem dX9_count_102 : decode cX9_count 102 = .ok (.aload_n 0, 1) := by decide +kernel
theorem dX9_count_103 : decode cX9_count 103 = .ok (.getfield 7, 3) := by decide +kernel
theorem dX9_count_106 : decode cX9_count 106 = .ok (.iconst 2, 1) := by decide +kernel
theorem dX9_count_107 : decode cX9_count 107 = .ok (.iaload, 1) := by decide +kernel
theorem dX9_count_108 : decode cX9_count 108 = .ok (.ireturn, 1) := by decide +kernel
theorem dX9_count_109 : decode cX9_count 109 = .ok (.aload_n 0, 1) := by decide +kernel
theorem dX9_count_110 : decode cX9_count 110 = .ok (.getfield 7, 3) := by decide +kernel
theorem dX9_count_113 : decode cX9_count 113 = .ok (.iconst 3, 1) := by decide +kernel
theorem dX9_count_114 : decode cX9_count 114 = .ok (.iaload, 1) := by decide +kernel
theorem dX9_count_115 : decode cX9_count 115 = .ok (.ireturn, 1) := by decide +kernel
theorem dX9_count_116 : decode cX9_count 116 = .ok (.aload_n 0, 1) := by decide +kernel
theorem dX9_count_117 : decode cX9_count 117 = .ok (.getfield 7, 3) := by decide +kernel
theorem dX9_count_120 : decode cX9_count 120 = .ok (.iconst 4, 1) := by decide +kernel
theorem dX9_count_121 : decode cX9_count 121 = .ok (.iaload, 1) := by decide +kernel
theorem dX9_count_122 : decode cX9_count 122 = .ok (.ireturn, 1) := by decide +kernel
theorem dX9_count_123 : decode cX9_count 123 = .ok (.aload_n 0, 1) := by decide +kernel
theorem dX9_count_124 : decode cX9_count 124 = .ok (.getfield 7, 3) := by decide +kernel
theorem dX9_count_127 : decode cX9_count 127 = .ok (.iconst 5, 1) := by decide +kernel
theorem dX9_count_128 : decode cX9_count 128 = .ok (.iaload, 1) := by decide +kernel
theorem dX9_count_129 : decode cX9_count 129 = .ok (.ireturn, 1) := by decide +kernel
theorem dX9_count_130 : decode cX9_count 130 = .ok (.aload_n 0, 1) := by decide +kernel
theorem dX9_count_131 : decode cX9_count 131 = .ok (.iconst (-1), 1) := by decide +kernel
theorem dX9_count_132 : decode cX9_count 132 = .ok (.iconst (-1), 1) := by decide +kernel
theorem dX9_count_133 : decode cX9_count 133 = .ok (.iload_n 1, 1) := by decide +kernel
theorem dX9_count_134 : decode cX9_count 134 = .ok (.bipush 6, 2) := by decide +kernel
theorem dX9_count_136 : decode cX9_count 136 = .ok (.isub, 1) := by decide +kernel
theorem dX9_count_137 : decode cX9_count 137 = .ok (.iload_n 1, 1) := by decide +kernel
theorem dX9_count_138 : decode cX9_count 138 = .ok (.bipush 6, 2) := by decide +kernel
theorem dX9_count_140 : decode cX9_count 140 = .ok (.isub, 1) := by decide +kernel
theorem dX9_count_141 : decode cX9_count 141 = .ok (.invokevirtual 206, 3) := by decide +kernel
theorem dX9_count_144 : decode cX9_count 144 = .ok (.ireturn, 1) := by decide +kernel
theorem dX9_count_145 : decode cX9_count 145 = .ok (.aload_n 0, 1) := by decide +kernel
theorem dX9_count_146 : decode cX9_count 146 = .ok (.invokevirtual 110, 3) := by decide +kernel
theorem dX9_count_149 : decode cX9_count 149 = .ok (.ireturn, 1) := by decide +kernel
theorem dX9_count_150 : decode cX9_count 150 = .ok (.aload_n 0, 1) := by decide +kernel
theorem dX9_count_151 : decode cX9_count 151 = .ok (.getfield 7, 3) := by decide +kernel
theorem dX9_count_154 : decode cX9_count 154 = .ok (.bipush 6, 2) := by decide +kernel
theorem dX9_count_156 : decode cX9_count 156 = .ok (.iaload, 1) := by decide +kernel
theorem dX9_count_157 : decode cX9_count 157 = .ok (.ireturn, 1) := by decide +kernel
theorem dX9_count_158 : decode cX9_count 158 = .ok (.aload_n 0, 1) := by decide +kernel
theorem dX9_count_159 : decode cX9_count 159 = .ok (.getfield 7, 3) := by decide +kernel
theorem dX9_count_162 : decode cX9_count 162 = .ok (.bipush 7, 2) := by decide +kernel
theorem dX9_count_164 : decode cX9_count 164 = .ok (.iaload, 1) := by decide +kernel
theorem dX9_count_165 : decode cX9_count 165 = .ok (.ireturn, 1) := by decide +kernel
theorem dX9_count_166 : decode cX9_count 166 = .ok (.aload_n 0, 1) := by decide +kernel
theorem dX9_count_167 : decode cX9_count 167 = .ok (.getfield 7, 3) := by decide +kernel
theorem dX9_count_170 : decode cX9_count 170 = .ok (.bipush 8, 2) := by decide +kernel
theorem dX9_count_172 : decode cX9_count 172 = .ok (.iaload, 1) := by decide +kernel
theorem dX9_count_173 : decode cX9_count 173 = .ok (.ireturn, 1) := by decide +kernel
theorem dX9_count_174 : decode cX9_count 174 = .ok (.aload_n 0, 1) := by decide +kernel
theorem dX9_count_175 : decode cX9_count 175 = .ok (.getfield 7, 3) := by decide +kernel
theorem dX9_count_178 : decode cX9_count 178 = .ok (.bipush 9, 2) := by decide +kernel
theorem dX9_count_180 : decode cX9_count 180 = .ok (.iaload, 1) := by decide +kernel
theorem dX9_count_181 : decode cX9_count 181 = .ok (.ireturn, 1) := by decide +kernel
theorem dX9_count_182 : decode cX9_count 182 = .ok (.aload_n 0, 1) := by decide +kernel
theorem dX9_count_183 : decode cX9_count 183 = .ok (.getfield 60, 3) := by decide +kernel
theorem dX9_count_186 : decode cX9_count 186 = .ok (.ireturn, 1) := by decide +kernel
theorem dX9_count_187 : decode cX9_count 187 = .ok (.aload_n 0, 1) := by decide +kernel
theorem dX9_count_188 : decode cX9_count 188 = .ok (.getfield 168, 3) := by decide +kernel
theorem dX9_count_191 : decode cX9_count 191 = .ok (.ireturn, 1) := by decide +kernel
theorem dX9_count_192 : decode cX9_count 192 = .ok (.bipush (-2), 2) := by decide +kernel
theorem dX9_count_194 : decode cX9_count 194 = .ok (.ireturn, 1) := by decide +kernel
abbrev rX9_count : Room := { frames := 5, cells := 0, slots := 0, locals := 113 }
set_option maxRecDepth 20000 in
theorem gd_X9_count_B130 {x : Cx} {y : Cy} (hy : Inj y) (h : OkM x y cX9_count RX9 2 (some .int) rX9_count) (a1 : Int32) (M : Mem) : G x y 130 [(0, .ref (y.2.1 143)), (1, .int a1)] [] M (d_X9_count_B130 a1 M) := by
  unfold d_X9_count_B130
  refine G_aload_n (pc := 130) h.1 dX9_count_130 rfl 0 rfl ?_
  refine G_iconst (pc := 131) (v := (-1)) h.1 dX9_count_131 (by decide) ?_
  refine G_iconst (pc := 132) (v := (-1)) h.1 dX9_count_132 (by decide) ?_
  refine G_iload_n (pc := 133) h.1 dX9_count_133 rfl 1 rfl ?_
  refine G_bipush (pc := 134) (v := (6)) h.1 dX9_count_134 (by decide) ?_
  refine G_isub (pc := 136) h.1 dX9_count_136 ?_
  refine G_iload_n (pc := 137) h.1 dX9_count_137 rfl 1 rfl ?_
  refine G_bipush (pc := 138) (v := (6)) h.1 dX9_count_138 (by decide) ?_
  refine G_isub (pc := 140) h.1 dX9_count_140 ?_
  refine G_callV (pc := 141) (As := [.int (-1 : Int32), .int (-1 : Int32), .int (a1 - (6 : Int32)), .int (a1 - (6 : Int32))]) (rest := []) h.1 h.2.2.1 lk_X9_206 lN143 (eM143 _) rfl rfl (c_X9_bookings x.1.2.1 y hy (-1 : Int32) (-1 : Int32) (a1 - (6 : Int32)) (a1 - (6 : Int32)) M) rfl rfl (Nat.le_of_ble_eq_true rfl) ⟨rfl, rfl, Nat.le_of_ble_eq_true rfl, Nat.le_of_ble_eq_true rfl⟩ dX9_count_141 (fun r8 M7 => ?_)
  exact G_ret (pc := 144) h rfl dX9_count_144
set_option maxRecDepth 20000 in
theorem c_X9_count (l : Launch) (y : Cy) (hy : Inj y) (p1 : Int32) (M : Mem) : CT l y yX9_count cX9_count 2 (some .int) rX9_count [.ref (y.2.1 143), .int p1] M (d_X9_count p1 M) := by
  refine CT_of (by decide) hy (Nat.le_of_ble_eq_true rfl) (fun x hxl h => ?_)
  show G x y 0 [(0, .ref (y.2.1 143)), (1, .int p1)] [] M _
  unfold d_X9_count
  refine G_iload_n (pc := 0) h.1 dX9_count_0 rfl 1 rfl ?_
  refine G_ite (fun c1 => ?_) (fun c1 => ?_)
  · refine G_tabIn (z := 0) (off := 87) (tgt := 88) h.1 dX9_count_1 c1 (by decide) (by decide) (by decide) rfl (by decide) ?_
    refine G_aload_n (pc := 88) h.1 dX9_count_88 rfl 0 rfl ?_
    refine G_get (pc := 89) (v := .ref (y.2.1 144)) h.1 fl_X9_7 lN143 (eM143 _) rfl dX9_count_89 ?_
    refine G_iconst (pc := 92) (v := (0)) h.1 dX9_count_92 (by decide) ?_
    refine G_iald (pc := 93) h.1 lN144 (eM144 _) dX9_count_93 ?_
    exact G_ret (pc := 94) h rfl dX9_count_94
  refine G_ite (fun c2 => ?_) (fun c2 => ?_)
  · refine G_tabIn (z := 1) (off := 94) (tgt := 95) h.1 dX9_count_1 c2 (by decide) (by decide) (by decide) rfl (by decide) ?_
    refine G_aload_n (pc := 95) h.1 dX9_count_95 rfl 0 rfl ?_
    refine G_get (pc := 96) (v := .ref (y.2.1 144)) h.1 fl_X9_7 lN143 (eM143 _) rfl dX9_count_96 ?_
    refine G_iconst (pc := 99) (v := (1)) h.1 dX9_count_99 (by decide) ?_
    refine G_iald (pc := 100) h.1 lN144 (eM144 _) dX9_count_100 ?_
    exact G_ret (pc := 101) h rfl dX9_count_101
  refine G_ite (fun c3 => ?_) (fun c3 => ?_)
  · refine G_tabIn (z := 2) (off := 101) (tgt := 102) h.1 dX9_count_1 c3 (by decide) (by decide) (by decide) rfl (by decide) ?_
    refine G_aload_n (pc := 102) h.1 dX9_count_102 rfl 0 rfl ?_
    refine G_get (pc := 103) (v := .ref (y.2.1 144)) h.1 fl_X9_7 lN143 (eM143 _) rfl dX9_count_103 ?_
    refine G_iconst (pc := 106) (v := (2)) h.1 dX9_count_106 (by decide) ?_
    refine G_iald (pc := 107) h.1 lN144 (eM144 _) dX9_count_107 ?_
    exact G_ret (pc := 108) h rfl dX9_count_108
  refine G_ite (fun c4 => ?_) (fun c4 => ?_)
  · refine G_tabIn (z := 3) (off := 108) (tgt := 109) h.1 dX9_count_1 c4 (by decide) (by decide) (by decide) rfl (by decide) ?_
    refine G_aload_n (pc := 109) h.1 dX9_count_109 rfl 0 rfl ?_
    refine G_get (pc := 110) (v := .ref (y.2.1 144)) h.1 fl_X9_7 lN143 (eM143 _) rfl dX9_count_110 ?_
    refine G_iconst (pc := 113) (v := (3)) h.1 dX9_count_113 (by decide) ?_
    refine G_iald (pc := 114) h.1 lN144 (eM144 _) dX9_count_114 ?_
    exact G_ret (pc := 115) h rfl dX9_count_115
  refine G_ite (fun c5 => ?_) (fun c5 => ?_)
  · refine G_tabIn (z := 4) (off := 115) (tgt := 116) h.1 dX9_count_1 c5 (by decide) (by decide) (by decide) rfl (by decide) ?_
    refine G_aload_n (pc := 116) h.1 dX9_count_116 rfl 0 rfl ?_
    refine G_get (pc := 117) (v := .ref (y.2.1 144)) h.1 fl_X9_7 lN143 (eM143 _) rfl dX9_count_117 ?_
    refine G_iconst (pc := 120) (v := (4)) h.1 dX9_count_120 (by decide) ?_
    refine G_iald (pc := 121) h.1 lN144 (eM144 _) dX9_count_121 ?_
    exact G_ret (pc := 122) h rfl dX9_count_122
  refine G_ite (fun c6 => ?_) (fun c6 => ?_)
  · refine G_tabIn (z := 5) (off := 122) (tgt := 123) h.1 dX9_count_1 c6 (by decide) (by decide) (by decide) rfl (by decide) ?_
    refine G_aload_n (pc := 123) h.1 dX9_count_123 rfl 0 rfl ?_
    refine G_get (pc := 124) (v := .ref (y.2.1 144)) h.1 fl_X9_7 lN143 (eM143 _) rfl dX9_count_124 ?_
    refine G_iconst (pc := 127) (v := (5)) h.1 dX9_count_127 (by decide) ?_
    refine G_iald (pc := 128) h.1 lN144 (eM144 _) dX9_count_128 ?_
    exact G_ret (pc := 129) h rfl dX9_count_129
  refine G_ite (fun c9 => ?_) (fun c9 => ?_)
  · refine G_tabIn (z := 6) (off := 129) (tgt := 130) h.1 dX9_count_1 c9 (by decide) (by decide) (by decide) rfl (by decide) ?_
    exact G_sub [0, 1] rfl (gd_X9_count_B130 hy h p1 M)
  refine G_ite (fun c10 => ?_) (fun c10 => ?_)
  · refine G_tabIn (z := 7) (off := 129) (tgt := 130) h.1 dX9_count_1 c10 (by decide) (by decide) (by decide) rfl (by decide) ?_
    exact G_sub [0, 1] rfl (gd_X9_count_B130 hy h p1 M)
  refine G_ite (fun c11 => ?_) (fun c11 => ?_)
  · refine G_tabIn (z := 8) (off := 129) (tgt := 130) h.1 dX9_count_1 c11 (by decide) (by decide) (by decide) rfl (by decide) ?_
    exact G_sub [0, 1] rfl (gd_X9_count_B130 hy h p1 M)
  refine G_ite (fun c12 => ?_) (fun c12 => ?_)
  · refine G_tabIn (z := 9) (off := 129) (tgt := 130) h.1 dX9_count_1 c12 (by decide) (by decide) (by decide) rfl (by decide) ?_
    exact G_sub [0, 1] rfl (gd_X9_count_B130 hy h p1 M)
  refine G_ite (fun c13 => ?_) (fun c13 => ?_)
  · refine G_tabIn (z := 10) (off := 129) (tgt := 130) h.1 dX9_count_1 c13 (by decide) (by decide) (by decide) rfl (by decide) ?_
    exact G_sub [0, 1] rfl (gd_X9_count_B130 hy h p1 M)
  refine G_ite (fun c16 => ?_) (fun c16 => ?_)
  · refine G_tabIn (z := 11) (off := 144) (tgt := 145) h.1 dX9_count_1 c16 (by decide) (by decide) (by decide) rfl (by decide) ?_
    refine G_aload_n (pc := 145) h.1 dX9_count_145 rfl 0 rfl ?_
    refine G_callV (pc := 146) (As := []) (rest := []) h.1 h.2.2.1 lk_X9_110 lN143 (eM143 _) rfl rfl (c_X9_doomed x.1.2.1 y hy M) rfl rfl (Nat.le_of_ble_eq_true rfl) ⟨rfl, rfl, Nat.le_of_ble_eq_true rfl, Nat.le_of_ble_eq_true rfl⟩ dX9_count_146 (fun r15 M14 => ?_)
    exact G_ret (pc := 149) h rfl dX9_count_149
  refine G_ite (fun c17 => ?_) (fun c17 => ?_)
  · refine G_tabIn (z := 12) (off := 149) (tgt := 150) h.1 dX9_count_1 c17 (by decide) (by decide) (by decide) rfl (by decide) ?_
    refine G_aload_n (pc := 150) h.1 dX9_count_150 rfl 0 rfl ?_
    refine G_get (pc := 151) (v := .ref (y.2.1 144)) h.1 fl_X9_7 lN143 (eM143 _) rfl dX9_count_151 ?_
    refine G_bipush (pc := 154) (v := (6)) h.1 dX9_count_154 (by decide) ?_
    refine G_iald (pc := 156) h.1 lN144 (eM144 _) dX9_count_156 ?_
    exact G_ret (pc := 157) h rfl dX9_count_157
  refine G_ite (fun c18 => ?_) (fun c18 => ?_)
  · refine G_tabIn (z := 13) (off := 157) (tgt := 158) h.1 dX9_count_1 c18 (by decide) (by decide) (by decide) rfl (by decide) ?_
    refine G_aload_n (pc := 158) h.1 dX9_count_158 rfl 0 rfl ?_
    refine G_get (pc := 159) (v := .ref (y.2.1 144)) h.1 fl_X9_7 lN143 (eM143 _) rfl dX9_count_159 ?_
    refine G_bipush (pc := 162) (v := (7)) h.1 dX9_count_162 (by decide) ?_
    refine G_iald (pc := 164) h.1 lN144 (eM144 _) dX9_count_164 ?_
    exact G_ret (pc := 165) h rfl dX9_count_165
  refine G_ite (fun c19 => ?_) (fun c19 => ?_)
  · refine G_tabIn (z := 14) (off := 165) (tgt := 166) h.1 dX9_count_1 c19 (by decide) (by decide) (by decide) rfl (by decide) ?_
    refine G_aload_n (pc := 166) h.1 dX9_count_166 rfl 0 rfl ?_
    refine G_get (pc := 167) (v := .ref (y.2.1 144)) h.1 fl_X9_7 lN143 (eM143 _) rfl dX9_count_167 ?_
    refine G_bipush (pc := 170) (v := (8)) h.1 dX9_count_170 (by decide) ?_
    refine G_iald (pc := 172) h.1 lN144 (eM144 _) dX9_count_172 ?_
    exact G_ret (pc := 173) h rfl dX9_count_173
  refine G_ite (fun c20 => ?_) (fun c20 => ?_)
  · refine G_tabIn (z := 15) (off := 173) (tgt := 174) h.1 dX9_count_1 c20 (by decide) (by decide) (by decide) rfl (by decide) ?_
    refine G_aload_n (pc := 174) h.1 dX9_count_174 rfl 0 rfl ?_
    refine G_get (pc := 175) (v := .ref (y.2.1 144)) h.1 fl_X9_7 lN143 (eM143 _) rfl dX9_count_175 ?_
    refine G_bipush (pc := 178) (v := (9)) h.1 dX9_count_178 (by decide) ?_
    refine G_iald (pc := 180) h.1 lN144 (eM144 _) dX9_count_180 ?_
    exact G_ret (pc := 181) h rfl dX9_count_181
  refine G_ite (fun c21 => ?_) (fun c21 => ?_)
  · refine G_tabIn (z := 16) (off := 181) (tgt := 182) h.1 dX9_count_1 c21 (by decide) (by decide) (by decide) rfl (by decide) ?_
    refine G_aload_n (pc := 182) h.1 dX9_count_182 rfl 0 rfl ?_
    refine G_get (pc := 183) (v := .int (M 143 2)) h.1 fl_X9_60 lN143 (eM143 _) rfl dX9_count_183 ?_
    exact G_ret (pc := 186) h rfl dX9_count_186
  refine G_ite (fun c22 => ?_) (fun c22 => ?_)
  · refine G_tabIn (z := 17) (off := 186) (tgt := 187) h.1 dX9_count_1 c22 (by decide) (by decide) (by decide) rfl (by decide) ?_
    refine G_aload_n (pc := 187) h.1 dX9_count_187 rfl 0 rfl ?_
    refine G_get (pc := 188) (v := .int (M 143 18)) h.1 fl_X9_168 lN143 (eM143 _) rfl dX9_count_188 ?_
    exact G_ret (pc := 191) h rfl dX9_count_191
  refine G_tabOut (tgt := 192) h.1 dX9_count_1 (by have hz := And.intro trivial trivial; have z0 := g_ne c1 0 (by decide); have z1 := g_ne c2 1 (by decide); have z2 := g_ne c3 2 (by decide); have z3 := g_ne c4 3 (by decide); have z4 := g_ne c5 4 (by decide); have z5 := g_ne c6 5 (by decide); have z6 := g_ne c9 6 (by decide); have z7 := g_ne c10 7 (by decide); have z8 := g_ne c11 8 (by decide); have z9 := g_ne c12 9 (by decide); have z10 := g_ne c13 10 (by decide); have z11 := g_ne c16 11 (by decide); have z12 := g_ne c17 12 (by decide); have z13 := g_ne c18 13 (by decide); have z14 := g_ne c19 14 (by decide); have z15 := g_ne c20 15 (by decide); have z16 := g_ne c21 16 (by decide); have z17 := g_ne c22 17 (by decide); omega) (by decide) ?_
  refine G_bipush (pc := 192) (v := (-2)) h.1 dX9_count_192 (by decide) ?_
  exact G_ret (pc := 194) h rfl dX9_count_194
