theorem dX9_aTick_0 : decode cX9_aTick 0 = .ok (.aload_n 0, 1) := by decide +kernel
theorem dX9_aTick_1 : decode cX9_aTick 1 = .ok (.getfield 7, 3) := by decide +kernel
theorem dX9_aTick_4 : decode cX9_aTick 4 = .ok (.iconst 0, 1) := by decide +kernel
theorem dX9_aTick_5 : decode cX9_aTick 5 = .ok (.dup2, 1) := by decide +kernel
theorem dX9_aTick_6 : decode cX9_aTick 6 = .ok (.iaload, 1) := by decide +kernel
theorem dX9_aTick_7 : decode cX9_aTick 7 = .ok (.iconst 1, 1) := by decide +kernel
theorem dX9_aTick_8 : decode cX9_aTick 8 = .ok (.iadd, 1) := by decide +kernel
theorem dX9_aTick_9 : decode cX9_aTick 9 = .ok (.iastore, 1) := by decide +kernel
theorem dX9_aTick_10 : decode cX9_aTick 10 = .ok (.aload_n 0, 1) := by decide +kernel
theorem dX9_aTick_11 : decode cX9_aTick 11 = .ok (.getfield 7, 3) := by decide +kernel
theorem dX9_aTick_14 : decode cX9_aTick 14 = .ok (.iconst 1, 1) := by decide +kernel
theorem dX9_aTick_15 : decode cX9_aTick 15 = .ok (.dup2, 1) := by decide +kernel
theorem dX9_aTick_16 : decode cX9_aTick 16 = .ok (.iaload, 1) := by decide +kernel
theorem dX9_aTick_17 : decode cX9_aTick 17 = .ok (.aload_n 0, 1) := by decide +kernel
theorem dX9_aTick_18 : decode cX9_aTick 18 = .ok (.getfield 7, 3) := by decide +kernel
theorem dX9_aTick_21 : decode cX9_aTick 21 = .ok (.iconst 3, 1) := by decide +kernel
theorem dX9_aTick_22 : decode cX9_aTick 22 = .ok (.iaload, 1) := by decide +kernel
theorem dX9_aTick_23 : decode cX9_aTick 23 = .ok (.iadd, 1) := by decide +kernel
theorem dX9_aTick_24 : decode cX9_aTick 24 = .ok (.iastore, 1) := by decide +kernel
theorem dX9_aTick_25 : decode cX9_aTick 25 = .ok (.aload_n 0, 1) := by decide +kernel
theorem dX9_aTick_26 : decode cX9_aTick 26 = .ok (.getfield 7, 3) := by decide +kernel
theorem dX9_aTick_29 : decode cX9_aTick 29 = .ok (.iconst 1, 1) := by decide +kernel
theorem dX9_aTick_30 : decode cX9_aTick 30 = .ok (.aload_n 0, 1) := by decide +kernel
theorem dX9_aTick_31 : decode cX9_aTick 31 = .ok (.getfield 7, 3) := by decide +kernel
theorem dX9_aTick_34 : decode cX9_aTick 34 = .ok (.iconst 1, 1) := by decide +kernel
theorem dX9_aTick_35 : decode cX9_aTick 35 = .ok (.iaload, 1) := by decide +kernel
theorem dX9_aTick_36 : decode cX9_aTick 36 = .ok (.aload_n 0, 1) := by decide +kernel
theorem dX9_aTick_37 : decode cX9_aTick 37 = .ok (.getfield 7, 3) := by decide +kernel
theorem dX9_aTick_40 : decode cX9_aTick 40 = .ok (.iconst 2, 1) := by decide +kernel
theorem dX9_aTick_41 : decode cX9_aTick 41 = .ok (.iaload, 1) := by decide +kernel
theorem dX9_aTick_42 : decode cX9_aTick 42 = .ok (.if_icmp .le 12, 3) := by decide +kernel
theorem dX9_aTick_45 : decode cX9_aTick 45 = .ok (.aload_n 0, 1) := by decide +kernel
theorem dX9_aTick_46 : decode cX9_aTick 46 = .ok (.getfield 7, 3) := by decide +kernel
theorem dX9_aTick_49 : decode cX9_aTick 49 = .ok (.iconst 2, 1) := by decide +kernel
theorem dX9_aTick_50 : decode cX9_aTick 50 = .ok (.iaload, 1) := by decide +kernel
theorem dX9_aTick_51 : decode cX9_aTick 51 = .ok (.goto 9, 3) := by decide +kernel
theorem dX9_aTick_54 : decode cX9_aTick 54 = .ok (.aload_n 0, 1) := by decide +kernel
theorem dX9_aTick_55 : decode cX9_aTick 55 = .ok (.getfield 7, 3) := by decide +kernel
theorem dX9_aTick_58 : decode cX9_aTick 58 = .ok (.iconst 1, 1) := by decide +kernel
theorem dX9_aTick_59 : decode cX9_aTick 59 = .ok (.iaload, 1) := by decide +kernel
theorem dX9_aTick_60 : decode cX9_aTick 60 = .ok (.iastore, 1) := by decide +kernel
theorem dX9_aTick_61 : decode cX9_aTick 61 = .ok (.iconst 0, 1) := by decide +kernel
theorem dX9_aTick_62 : decode cX9_aTick 62 = .ok (.istore_n 1, 1) := by decide +kernel
theorem dX9_aTick_63 : decode cX9_aTick 63 = .ok (.iconst 0, 1) := by decide +kernel
theorem dX9_aTick_64 : decode cX9_aTick 64 = .ok (.istore_n 2, 1) := by decide +kernel
theorem dX9_aTick_65 : decode cX9_aTick 65 = .ok (.iload_n 2, 1) := by decide +kernel
theorem dX9_aTick_66 : decode cX9_aTick 66 = .ok (.aload_n 0, 1) := by decide +kernel
theorem dX9_aTick_67 : decode cX9_aTick 67 = .ok (.getfield 7, 3) := by decide +kernel
theorem dX9_aTick_70 : decode cX9_aTick 70 = .ok (.iconst 5, 1) := by decide +kernel
theorem dX9_aTick_71 : decode cX9_aTick 71 = .ok (.iaload, 1) := by decide +kernel
theorem dX9_aTick_72 : decode cX9_aTick 72 = .ok (.if_icmp .ge 25, 3) := by decide +kernel
theorem dX9_aTick_75 : decode cX9_aTick 75 = .ok (.iload_n 1, 1) := by decide +kernel
theorem dX9_aTick_76 : decode cX9_aTick 76 = .ok (.aload_n 0, 1) := by decide +kernel
theorem dX9_aTick_77 : decode cX9_aTick 77 = .ok (.iload_n 2, 1) := by decide +kernel
theorem dX9_aTick_78 : decode cX9_aTick 78 = .ok (.invokevirtual 162, 3) := by decide +kernel
theorem dX9_aTick_81 : decode cX9_aTick 81 = .ok (.ifCond .eq 7, 3) := by decide +kernel
theorem dX9_aTick_84 : decode cX9_aTick 84 = .ok (.iconst 1, 1) := by decide +kernel
theorem dX9_aTick_85 : decode cX9_aTick 85 = .ok (.goto 4, 3) := by decide +kernel
theorem dX9_aTick_88 : decode cX9_aTick 88 = .ok (.iconst 0, 1) := by decide +kernel
theorem dX9_aTick_89 : decode cX9_aTick 89 = .ok (.iadd, 1) := by decide +kernel
theorem dX9_aTick_90 : decode cX9_aTick 90 = .ok (.istore_n 1, 1) := by decide +kernel
theorem dX9_aTick_91 : decode cX9_aTick 91 = .ok (.iinc 2 1, 3) := by decide +kernel
theorem dX9_aTick_94 : decode cX9_aTick 94 = .ok (.goto (-29), 3) := by decide +kernel
theorem dX9_aTick_97 : decode cX9_aTick 97 = .ok (.iconst 0, 1) := by decide +kernel
theorem dX9_aTick_98 : decode cX9_aTick 98 = .ok (.istore_n 2, 1) := by decide +kernel
theorem dX9_aTick_99 : decode cX9_aTick 99 = .ok (.iload_n 2, 1) := by decide +kernel
theorem dX9_aTick_100 : decode cX9_aTick 100 = .ok (.aload_n 0, 1) := by decide +kernel
theorem dX9_aTick_101 : decode cX9_aTick 101 = .ok (.getfield 7, 3) := by decide +kernel
theorem dX9_aTick_104 : decode cX9_aTick 104 = .ok (.bipush 6, 2) := by decide +kernel
theorem dX9_aTick_106 : decode cX9_aTick 106 = .ok (.iaload, 1) := by decide +kernel
theorem dX9_aTick_107 : decode cX9_aTick 107 = .ok (.if_icmp .ge 46, 3) := by decide +kernel
theorem dX9_aTick_110 : decode cX9_aTick 110 = .ok (.aload_n 0, 1) := by decide +kernel
theorem dX9_aTick_111 : decode cX9_aTick 111 = .ok (.iload_n 2, 1) := by decide +kernel
theorem dX9_aTick_112 : decode cX9_aTick 112 = .ok (.iconst 2, 1) := by decide +kernel
theorem dX9_aTick_113 : decode cX9_aTick 113 = .ok (.invokevirtual 144, 3) := by decide +kernel
theorem dX9_aTick_116 : decode cX9_aTick 116 = .ok (.bipush 20, 2) := by decide +kernel
theorem dX9_aTick_118 : decode cX9_aTick 118 = .ok (.iadd, 1) := by decide +kernel
theorem dX9_aTick_119 : decode cX9_aTick 119 = .ok (.aload_n 0, 1) := by decide +kernel
theorem dX9_aTick_120 : decode cX9_aTick 120 = .ok (.getfield 7, 3) := by decide +kernel
theorem dX9_aTick_123 : decode cX9_aTick 123 = .ok (.iconst 0, 1) := by decide +kernel
theorem dX9_aTick_124 : decode cX9_aTick 124 = .ok (.iaload, 1) := by decide +kernel
theorem dX9_aTick_125 : decode cX9_aTick 125 = .ok (.if_icmp .gt 22, 3) := by decide +kernel
theorem dX9_aTick_128 : decode cX9_aTick 128 = .ok (.aload_n 0, 1) := by decide +kernel
theorem dX9_aTick_129 : decode cX9_aTick 129 = .ok (.iload_n 2, 1) := by decide +kernel
theorem dX9_aTick_130 : decode cX9_aTick 130 = .ok (.invokevirtual 150, 3) := by decide +kernel
theorem dX9_aTick_133 : decode cX9_aTick 133 = .ok (.aload_n 0, 1) := by decide +kernel
theorem dX9_aTick_134 : decode cX9_aTick 134 = .ok (.getfield 7, 3) := by decide +kernel
theorem dX9_aTick_137 : decode cX9_aTick 137 = .ok (.bipush 8, 2) := by decide +kernel
theorem dX9_aTick_139 : decode cX9_aTick 139 = .ok (.dup2, 1) := by decide +kernel
theorem dX9_aTick_140 : decode cX9_aTick 140 = .ok (.iaload, 1) := by decide +kernel
theorem dX9_aTick_141 : decode cX9_aTick 141 = .ok (.iconst 1, 1) := by decide +kernel
theorem dX9_aTick_142 : decode cX9_aTick 142 = .ok (.iadd, 1) := by decide +kernel
theorem dX9_aTick_143 : decode cX9_aTick 143 = .ok (.iastore, 1) := by decide +kernel
theorem dX9_aTick_144 : decode cX9_aTick 144 = .ok (.goto (-45), 3) := by decide +kernel
theorem dX9_aTick_147 : decode cX9_aTick 147 = .ok (.iinc 2 1, 3) := by decide +kernel
theorem dX9_aTick_150 : decode cX9_aTick 150 = .ok (.goto (-51), 3) := by decide +kernel
theorem dX9_aTick_153 : decode cX9_aTick 153 = .ok (.iload_n 1, 1) := by decide +kernel
theorem dX9_aTick_154 : decode cX9_aTick 154 = .ok (.ireturn, 1) := by decide +kernel
abbrev rX9_aTick : Room := { frames := 3, cells := 0, slots := 0, locals := 67 }
set_option maxRecDepth 20000 in
theorem gd_X9_aTick_B89 {x : Cx} {y : Cy} (hy : Inj y) (h : OkM x y cX9_aTick RX9 3 (some .int) rX9_aTick) (kx1 : Int32 → Mem → Ans) (kb : Int32 → Int32 → Mem → Ans) (a2 : Int32) (s0 : Int32) (s1 : Int32) (hx1 : ∀ (b1 : Int32), ∀ M0 : Mem, G x y 97 [(0, .ref (y.2.1 143)), (1, .int b1)] [] M0 (kx1 b1 M0)) (hb : ∀ (b1 b2 : Int32), ∀ M0 : Mem, G x y 65 [(0, .ref (y.2.1 143)), (1, .int b1), (2, .int b2)] [] M0 (kb b1 b2 M0)) (M : Mem) : G x y 89 [(0, .ref (y.2.1 143)), (2, .int a2)] [.int s0, .int s1] M (d_X9_aTick_B89 kx1 kb a2 s0 s1 M) := by
  unfold d_X9_aTick_B89
  refine G_iadd (pc := 89) h.1 dX9_aTick_89 ?_
  refine G_top (fun v6 => ?_)
  refine G_istore_n (pc := 90) h.1 h.2.1 [(1, .int v6), (0, .ref (y.2.1 143)), (2, .int a2)] dX9_aTick_90 rfl (by decide) rfl ?_
  refine G_iinc (pc := 91) (v := a2 + (1)) h.1 h.2.1 (fun v7 => [(2, .int v7), (1, .int v6), (0, .ref (y.2.1 143))]) dX9_aTick_91 (by decide) 2 rfl rfl (fun _ => rfl) (fun v7 => ?_)
  refine G_goto (pc := 94) (tgt := 65) h.1 dX9_aTick_94 (by decide) ?_
  exact G_sub [2, 1, 0] rfl (hb v6 v7 M)
set_option maxRecDepth 20000 in
theorem gd_X9_aTick_L65_body {x : Cx} {y : Cy} (hy : Inj y) (h : OkM x y cX9_aTick RX9 3 (some .int) rX9_aTick) (kx1 : Int32 → Mem → Ans) (hx1 : ∀ (b1 : Int32), ∀ M0 : Mem, G x y 97 [(0, .ref (y.2.1 143)), (1, .int b1)] [] M0 (kx1 b1 M0)) (kb : Int32 → Int32 → Mem → Ans) (hb : ∀ (b1 b2 : Int32), ∀ M0 : Mem, G x y 65 [(0, .ref (y.2.1 143)), (1, .int b1), (2, .int b2)] [] M0 (kb b1 b2 M0)) (a1 : Int32) (a2 : Int32) (M : Mem) : G x y 65 [(0, .ref (y.2.1 143)), (1, .int a1), (2, .int a2)] [] M (d_X9_aTick_L65_body kx1 kb a1 a2 M) := by
  unfold d_X9_aTick_L65_body
  refine G_iload_n (pc := 65) h.1 dX9_aTick_65 rfl 2 rfl ?_
  refine G_aload_n (pc := 66) h.1 dX9_aTick_66 rfl 0 rfl ?_
  refine G_get (pc := 67) (v := .ref (y.2.1 144)) h.1 fl_X9_7 lN143 (eM143 _) rfl dX9_aTick_67 ?_
  refine G_iconst (pc := 70) (v := (5)) h.1 dX9_aTick_70 (by decide) ?_
  refine G_iald (pc := 71) h.1 lN144 (eM144 _) dX9_aTick_71 ?_
  refine G_icmp_ge (pc := 72) (tgt := 97) h.1 dX9_aTick_72 (by decide) ?_ ?_
  · exact G_sub [0, 1] rfl (hx1 a1 M)
  · refine G_iload_n (pc := 75) h.1 dX9_aTick_75 rfl 1 rfl ?_
    refine G_aload_n (pc := 76) h.1 dX9_aTick_76 rfl 0 rfl ?_
    refine G_iload_n (pc := 77) h.1 dX9_aTick_77 rfl 2 rfl ?_
    refine G_callV (pc := 78) (As := [.int a2]) (rest := [.int a1]) h.1 h.2.2.1 lk_X9_162 lN143 (eM143 _) rfl rfl (c_X9_draws x.1.2.1 y hy a2 M) rfl rfl (Nat.le_of_ble_eq_true rfl) ⟨rfl, rfl, Nat.le_of_ble_eq_true rfl, Nat.le_of_ble_eq_true rfl⟩ dX9_aTick_78 (fun r5 M4 => ?_)
    refine G_if_eq (pc := 81) (tgt := 88) h.1 dX9_aTick_81 (by decide) ?_ ?_
    · refine G_iconst (pc := 88) (v := (0)) h.1 dX9_aTick_88 (by decide) ?_
      exact G_sub [0, 2] rfl (gd_X9_aTick_B89 hy h kx1 kb a2 (0 : Int32) a1 hx1 hb M4)
    · refine G_iconst (pc := 84) (v := (1)) h.1 dX9_aTick_84 (by decide) ?_
      refine G_goto (pc := 85) (tgt := 89) h.1 dX9_aTick_85 (by decide) ?_
      exact G_sub [0, 2] rfl (gd_X9_aTick_B89 hy h kx1 kb a2 (1 : Int32) a1 hx1 hb M4)
set_option maxRecDepth 20000 in
theorem gd_X9_aTick_L65 {x : Cx} {y : Cy} (hy : Inj y) (h : OkM x y cX9_aTick RX9 3 (some .int) rX9_aTick) (kx1 : Int32 → Mem → Ans) (hx1 : ∀ (b1 : Int32), ∀ M0 : Mem, G x y 97 [(0, .ref (y.2.1 143)), (1, .int b1)] [] M0 (kx1 b1 M0)) : ∀ (n : Nat) (a1 : Int32) (a2 : Int32) (M : Mem), G x y 65 [(0, .ref (y.2.1 143)), (1, .int a1), (2, .int a2)] [] M (d_X9_aTick_L65 kx1 n a1 a2 M) := by
  intro n
  induction n with
  | zero => intro a1 a2 M; exact G_none
  | succ n ih => intro a1 a2 M; exact gd_X9_aTick_L65_body hy h kx1 hx1 _ ih a1 a2 M
set_option maxRecDepth 20000 in
theorem gd_X9_aTick_L99_body {x : Cx} {y : Cy} (hy : Inj y) (h : OkM x y cX9_aTick RX9 3 (some .int) rX9_aTick) (a1 : Int32) (kx1 : Mem → Ans) (hx1 : ∀ M0 : Mem, G x y 153 [(1, .int a1)] [] M0 (kx1 M0)) (kb : Int32 → Mem → Ans) (hb : ∀ (b2 : Int32), ∀ M0 : Mem, G x y 99 [(0, .ref (y.2.1 143)), (1, .int a1), (2, .int b2)] [] M0 (kb b2 M0)) (a2 : Int32) (M : Mem) : G x y 99 [(0, .ref (y.2.1 143)), (1, .int a1), (2, .int a2)] [] M (d_X9_aTick_L99_body a1 kx1 kb a2 M) := by
  unfold d_X9_aTick_L99_body
  refine G_iload_n (pc := 99) h.1 dX9_aTick_99 rfl 2 rfl ?_
  refine G_aload_n (pc := 100) h.1 dX9_aTick_100 rfl 0 rfl ?_
  refine G_get (pc := 101) (v := .ref (y.2.1 144)) h.1 fl_X9_7 lN143 (eM143 _) rfl dX9_aTick_101 ?_
  refine G_bipush (pc := 104) (v := (6)) h.1 dX9_aTick_104 (by decide) ?_
  refine G_iald (pc := 106) h.1 lN144 (eM144 _) dX9_aTick_106 ?_
  refine G_icmp_ge (pc := 107) (tgt := 153) h.1 dX9_aTick_107 (by decide) ?_ ?_
  · exact G_sub [1] rfl (hx1 M)
  · refine G_aload_n (pc := 110) h.1 dX9_aTick_110 rfl 0 rfl ?_
    refine G_iload_n (pc := 111) h.1 dX9_aTick_111 rfl 2 rfl ?_
    refine G_iconst (pc := 112) (v := (2)) h.1 dX9_aTick_112 (by decide) ?_
    refine G_callV (pc := 113) (As := [.int a2, .int (2 : Int32)]) (rest := []) h.1 h.2.2.1 lk_X9_144 lN143 (eM143 _) rfl rfl (c_X9_ofWish x.1.2.1 y hy a2 (2 : Int32) M) rfl rfl (Nat.le_of_ble_eq_true rfl) ⟨rfl, rfl, Nat.le_of_ble_eq_true rfl, Nat.le_of_ble_eq_true rfl⟩ dX9_aTick_113 (fun r11 M10 => ?_)
    refine G_bipush (pc := 116) (v := (20)) h.1 dX9_aTick_116 (by decide) ?_
    refine G_iadd (pc := 118) h.1 dX9_aTick_118 ?_
    refine G_aload_n (pc := 119) h.1 dX9_aTick_119 rfl 0 rfl ?_
    refine G_get (pc := 120) (v := .ref (y.2.1 144)) h.1 fl_X9_7 lN143 (eM143 _) rfl dX9_aTick_120 ?_
    refine G_iconst (pc := 123) (v := (0)) h.1 dX9_aTick_123 (by decide) ?_
    refine G_iald (pc := 124) h.1 lN144 (eM144 _) dX9_aTick_124 ?_
    refine G_icmp_gt (pc := 125) (tgt := 147) h.1 dX9_aTick_125 (by decide) ?_ ?_
    · refine G_iinc (pc := 147) (v := a2 + (1)) h.1 h.2.1 (fun v12 => [(2, .int v12), (0, .ref (y.2.1 143)), (1, .int a1)]) dX9_aTick_147 (by decide) 2 rfl rfl (fun _ => rfl) (fun v12 => ?_)
      refine G_goto (pc := 150) (tgt := 99) h.1 dX9_aTick_150 (by decide) ?_
      exact G_sub [1, 2, 0] rfl (hb v12 M10)
    · refine G_aload_n (pc := 128) h.1 dX9_aTick_128 rfl 0 rfl ?_
      refine G_iload_n (pc := 129) h.1 dX9_aTick_129 rfl 2 rfl ?_
      refine G_callVv (pc := 130) (As := [.int a2]) (rest := []) h.1 h.2.2.1 lk_X9_150 lN143 (eM143 _) rfl rfl (c_X9_leaves x.1.2.1 y hy a2 M10) rfl rfl (Nat.le_of_ble_eq_true rfl) ⟨rfl, rfl, Nat.le_of_ble_eq_true rfl, Nat.le_of_ble_eq_true rfl⟩ dX9_aTick_130 (fun r14 M13 => ?_)
      refine G_aload_n (pc := 133) h.1 dX9_aTick_133 rfl 0 rfl ?_
      refine G_get (pc := 134) (v := .ref (y.2.1 144)) h.1 fl_X9_7 lN143 (eM143 _) rfl dX9_aTick_134 ?_
      refine G_bipush (pc := 137) (v := (8)) h.1 dX9_aTick_137 (by decide) ?_
      refine G_dup2 (pc := 139) h.1 dX9_aTick_139 rfl rfl ?_
      refine G_iald (pc := 140) h.1 lN144 (eM144 _) dX9_aTick_140 ?_
      refine G_iconst (pc := 141) (v := (1)) h.1 dX9_aTick_141 (by decide) ?_
      refine G_iadd (pc := 142) h.1 dX9_aTick_142 ?_
      refine G_iast (pc := 143) h.1 lN144 (fun m => eM144 m) dX9_aTick_143 (fun M15 => ?_)
      refine G_goto (pc := 144) (tgt := 99) h.1 dX9_aTick_144 (by decide) ?_
      exact G_sub [0, 1, 2] rfl (hb a2 M15)
set_option maxRecDepth 20000 in
theorem gd_X9_aTick_L99 {x : Cx} {y : Cy} (hy : Inj y) (h : OkM x y cX9_aTick RX9 3 (some .int) rX9_aTick) (a1 : Int32) (kx1 : Mem → Ans) (hx1 : ∀ M0 : Mem, G x y 153 [(1, .int a1)] [] M0 (kx1 M0)) : ∀ (n : Nat) (a2 : Int32) (M : Mem), G x y 99 [(0, .ref (y.2.1 143)), (1, .int a1), (2, .int a2)] [] M (d_X9_aTick_L99 a1 kx1 n a2 M) := by
  intro n
  induction n with
  | zero => intro a2 M; exact G_none
  | succ n ih => intro a2 M; exact gd_X9_aTick_L99_body hy h a1 kx1 hx1 _ ih a2 M
set_option maxRecDepth 20000 in
theorem gd_X9_aTick_B60 {x : Cx} {y : Cy} (hy : Inj y) (h : OkM x y cX9_aTick RX9 3 (some .int) rX9_aTick) (s0 : Int32) (s1 : Int32) (M : Mem) : G x y 60 [(0, .ref (y.2.1 143))] [.int s0, .int s1, .ref (y.2.1 144)] M (d_X9_aTick_B60 s0 s1 M) := by
  unfold d_X9_aTick_B60
  refine G_iast (pc := 60) h.1 lN144 (fun m => eM144 m) dX9_aTick_60 (fun M3 => ?_)
  refine G_iconst (pc := 61) (v := (0)) h.1 dX9_aTick_61 (by decide) ?_
  refine G_istore_n (pc := 62) h.1 h.2.1 [(1, .int (0 : Int32)), (0, .ref (y.2.1 143))] dX9_aTick_62 rfl (by decide) rfl ?_
  refine G_iconst (pc := 63) (v := (0)) h.1 dX9_aTick_63 (by decide) ?_
  refine G_istore_n (pc := 64) h.1 h.2.1 [(2, .int (0 : Int32)), (1, .int (0 : Int32)), (0, .ref (y.2.1 143))] dX9_aTick_64 rfl (by decide) rfl ?_
  refine G_sub [2, 1, 0] rfl (gd_X9_aTick_L65 hy h _ (fun v8 M9 => ?_) fuelN (0 : Int32) (0 : Int32) M3)
  refine G_iconst (pc := 97) (v := (0)) h.1 dX9_aTick_97 (by decide) ?_
  refine G_istore_n (pc := 98) h.1 h.2.1 [(2, .int (0 : Int32)), (0, .ref (y.2.1 143)), (1, .int v8)] dX9_aTick_98 rfl (by decide) rfl ?_
  refine G_sub [1, 2, 0] rfl (gd_X9_aTick_L99 hy h v8 _ (fun M16 => ?_) fuelN (0 : Int32) M9)
  refine G_iload_n (pc := 153) h.1 dX9_aTick_153 rfl 0 rfl ?_
  exact G_ret (pc := 154) h rfl dX9_aTick_154
set_option maxRecDepth 20000 in
theorem c_X9_aTick (l : Launch) (y : Cy) (hy : Inj y) (M : Mem) : CT l y yX9_aTick cX9_aTick 3 (some .int) rX9_aTick [.ref (y.2.1 143)] M (d_X9_aTick M) := by
  refine CT_of (by decide) hy (Nat.le_of_ble_eq_true rfl) (fun x hxl h => ?_)
  show G x y 0 [(0, .ref (y.2.1 143))] [] M _
  unfold d_X9_aTick
  refine G_aload_n (pc := 0) h.1 dX9_aTick_0 rfl 0 rfl ?_
  refine G_get (pc := 1) (v := .ref (y.2.1 144)) h.1 fl_X9_7 lN143 (eM143 _) rfl dX9_aTick_1 ?_
  refine G_iconst (pc := 4) (v := (0)) h.1 dX9_aTick_4 (by decide) ?_
  refine G_dup2 (pc := 5) h.1 dX9_aTick_5 rfl rfl ?_
  refine G_iald (pc := 6) h.1 lN144 (eM144 _) dX9_aTick_6 ?_
  refine G_iconst (pc := 7) (v := (1)) h.1 dX9_aTick_7 (by decide) ?_
  refine G_iadd (pc := 8) h.1 dX9_aTick_8 ?_
  refine G_iast (pc := 9) h.1 lN144 (fun m => eM144 m) dX9_aTick_9 (fun M1 => ?_)
  refine G_aload_n (pc := 10) h.1 dX9_aTick_10 rfl 0 rfl ?_
  refine G_get (pc := 11) (v := .ref (y.2.1 144)) h.1 fl_X9_7 lN143 (eM143 _) rfl dX9_aTick_11 ?_
  refine G_iconst (pc := 14) (v := (1)) h.1 dX9_aTick_14 (by decide) ?_
  refine G_dup2 (pc := 15) h.1 dX9_aTick_15 rfl rfl ?_
  refine G_iald (pc := 16) h.1 lN144 (eM144 _) dX9_aTick_16 ?_
  refine G_aload_n (pc := 17) h.1 dX9_aTick_17 rfl 0 rfl ?_
  refine G_get (pc := 18) (v := .ref (y.2.1 144)) h.1 fl_X9_7 lN143 (eM143 _) rfl dX9_aTick_18 ?_
  refine G_iconst (pc := 21) (v := (3)) h.1 dX9_aTick_21 (by decide) ?_
  refine G_iald (pc := 22) h.1 lN144 (eM144 _) dX9_aTick_22 ?_
  refine G_iadd (pc := 23) h.1 dX9_aTick_23 ?_
  refine G_iast (pc := 24) h.1 lN144 (fun m => eM144 m) dX9_aTick_24 (fun M2 => ?_)
  refine G_aload_n (pc := 25) h.1 dX9_aTick_25 rfl 0 rfl ?_
  refine G_get (pc := 26) (v := .ref (y.2.1 144)) h.1 fl_X9_7 lN143 (eM143 _) rfl dX9_aTick_26 ?_
  refine G_iconst (pc := 29) (v := (1)) h.1 dX9_aTick_29 (by decide) ?_
  refine G_aload_n (pc := 30) h.1 dX9_aTick_30 rfl 0 rfl ?_
  refine G_get (pc := 31) (v := .ref (y.2.1 144)) h.1 fl_X9_7 lN143 (eM143 _) rfl dX9_aTick_31 ?_
  refine G_iconst (pc := 34) (v := (1)) h.1 dX9_aTick_34 (by decide) ?_
  refine G_iald (pc := 35) h.1 lN144 (eM144 _) dX9_aTick_35 ?_
  refine G_aload_n (pc := 36) h.1 dX9_aTick_36 rfl 0 rfl ?_
  refine G_get (pc := 37) (v := .ref (y.2.1 144)) h.1 fl_X9_7 lN143 (eM143 _) rfl dX9_aTick_37 ?_
  refine G_iconst (pc := 40) (v := (2)) h.1 dX9_aTick_40 (by decide) ?_
  refine G_iald (pc := 41) h.1 lN144 (eM144 _) dX9_aTick_41 ?_
  refine G_icmp_le (pc := 42) (tgt := 54) h.1 dX9_aTick_42 (by decide) ?_ ?_
  · refine G_aload_n (pc := 54) h.1 dX9_aTick_54 rfl 0 rfl ?_
    refine G_get (pc := 55) (v := .ref (y.2.1 144)) h.1 fl_X9_7 lN143 (eM143 _) rfl dX9_aTick_55 ?_
    refine G_iconst (pc := 58) (v := (1)) h.1 dX9_aTick_58 (by decide) ?_
    refine G_iald (pc := 59) h.1 lN144 (eM144 _) dX9_aTick_59 ?_
    exact G_sub [0] rfl (gd_X9_aTick_B60 hy h (M2 144 ((1 : Int32)).toNatClampNeg) (1 : Int32) M2)
  · refine G_aload_n (pc := 45) h.1 dX9_aTick_45 rfl 0 rfl ?_
    refine G_get (pc := 46) (v := .ref (y.2.1 144)) h.1 fl_X9_7 lN143 (eM143 _) rfl dX9_aTick_46 ?_
    refine G_iconst (pc := 49) (v := (2)) h.1 dX9_aTick_49 (by decide) ?_
    refine G_iald (pc := 50) h.1 lN144 (eM144 _) dX9_aTick_50 ?_
    refine G_goto (pc := 51) (tgt := 60) h.1 dX9_aTick_51 (by decide) ?_
    exact G_sub [0] rfl (gd_X9_aTick_B60 hy h (M2 144 ((2 : Int32)).toNatClampNeg) (1 : Int32) M2)
theorem dX9_pass_0 : decode cX9_pass 0 = .ok (.iload_n 1, 1) := by decide +kernel
theorem dX9_pass_1 : decode cX9_pass 1 = .ok (.iconst 1, 1) := by decide +kernel
theorem dX9_pass_2 : decode cX9_pass 2 = .ok (.sipush 200, 3) := by decide +kernel
theorem dX9_pass_5 : decode cX9_pass 5 = .ok (.invokestatic 52, 3) := by decide +kernel
theorem dX9_pass_8 : decode cX9_pass 8 = .ok (.ifCond .ne 6, 3) := by decide +kernel
theorem dX9_pass_11 : decode cX9_pass 11 = .ok (.bipush (-2), 2) := by decide +kernel
theorem dX9_pass_13 : decode cX9_pass 13 = .ok (.ireturn, 1) := by decide +kernel
theorem dX9_pass_14 : decode cX9_pass 14 = .ok (.aload_n 0, 1) := by decide +kernel
theorem dX9_pass_15 : decode cX9_pass 15 = .ok (.getfield 7, 3) := by decide +kernel
theorem dX9_pass_18 : decode cX9_pass 18 = .ok (.iconst 0, 1) := by decide +kernel
theorem dX9_pass_19 : decode cX9_pass 19 = .ok (.iaload, 1) := by decide +kernel
theorem dX9_pass_20 : decode cX9_pass 20 = .ok (.iload_n 1, 1) := by decide +kernel
theorem dX9_pass_21 : decode cX9_pass 21 = .ok (.iadd, 1) := by decide +kernel
theorem dX9_pass_22 : decode cX9_pass 22 = .ok (.sipush 9000, 3) := by decide +kernel
theorem dX9_pass_25 : decode cX9_pass 25 = .ok (.if_icmp .le 6, 3) := by decide +kernel
theorem dX9_pass_28 : decode cX9_pass 28 = .ok (.bipush (-4), 2) := by decide +kernel
theorem dX9_pass_30 : decode cX9_pass 30 = .ok (.ireturn, 1) := by decide +kernel
theorem dX9_pass_31 : decode cX9_pass 31 = .ok (.aload_n 0, 1) := by decide +kernel
theorem dX9_pass_32 : decode cX9_pass 32 = .ok (.invokevirtual 107, 3) := by decide +kernel
theorem dX9_pass_35 : decode cX9_pass 35 = .ok (.iconst 0, 1) := by decide +kernel
theorem dX9_pass_36 : decode cX9_pass 36 = .ok (.istore_n 2, 1) := by decide +kernel
theorem dX9_pass_37 : decode cX9_pass 37 = .ok (.iconst 0, 1) := by decide +kernel
theorem dX9_pass_38 : decode cX9_pass 38 = .ok (.istore_n 3, 1) := by decide +kernel
theorem dX9_pass_39 : decode cX9_pass 39 = .ok (.iload_n 3, 1) := by decide +kernel
theorem dX9_pass_40 : decode cX9_pass 40 = .ok (.iload_n 1, 1) := by decide +kernel
theorem dX9_pass_41 : decode cX9_pass 41 = .ok (.if_icmp .ge 16, 3) := by decide +kernel
theorem dX9_pass_44 : decode cX9_pass 44 = .ok (.iload_n 2, 1) := by decide +kernel
theorem dX9_pass_45 : decode cX9_pass 45 = .ok (.aload_n 0, 1) := by decide +kernel
theorem dX9_pass_46 : decode cX9_pass 46 = .ok (.invokevirtual 165, 3) := by decide +kernel
theorem dX9_pass_49 : decode cX9_pass 49 = .ok (.iadd, 1) := by decide +kernel
theorem dX9_pass_50 : decode cX9_pass 50 = .ok (.istore_n 2, 1) := by decide +kernel
theorem dX9_pass_51 : decode cX9_pass 51 = .ok (.iinc 3 1, 3) := by decide +kernel
theorem dX9_pass_54 : decode cX9_pass 54 = .ok (.goto (-15), 3) := by decide +kernel
theorem dX9_pass_57 : decode cX9_pass 57 = .ok (.iload_n 2, 1) := by decide +kernel
theorem dX9_pass_58 : decode cX9_pass 58 = .ok (.ireturn, 1) := by decide +kernel
abbrev rX9_pass : Room := { frames := 4, cells := 0, slots := 0, locals := 89 }
set_option maxRecDepth 20000 in
theorem gd_X9_pass_L39_body {x : Cx} {y : Cy} (hy : Inj y) (h : OkM x y cX9_pass RX9 4 (some .int) rX9_pass) (a1 : Int32) (kx1 : Int32 → Mem → Ans) (hx1 : ∀ (b2 : Int32), ∀ M0 : Mem, G x y 57 [(2, .int b2)] [] M0 (kx1 b2 M0)) (kb : Int32 → Int32 → Mem → Ans) (hb : ∀ (b2 b3 : Int32), ∀ M0 : Mem, G x y 39 [(0, .ref (y.2.1 143)), (1, .int a1), (2, .int b2), (3, .int b3)] [] M0 (kb b2 b3 M0)) (a2 : Int32) (a3 : Int32) (M : Mem) : G x y 39 [(0, .ref (y.2.1 143)), (1, .int a1), (2, .int a2), (3, .int a3)] [] M (d_X9_pass_L39_body a1 kx1 kb a2 a3 M) := by
  unfold d_X9_pass_L39_body
  refine G_iload_n (pc := 39) h.1 dX9_pass_39 rfl 3 rfl ?_
  refine G_iload_n (pc := 40) h.1 dX9_pass_40 rfl 1 rfl ?_
  refine G_icmp_ge (pc := 41) (tgt := 57) h.1 dX9_pass_41 (by decide) ?_ ?_
  · exact G_sub [2] rfl (hx1 a2 M)
  · refine G_iload_n (pc := 44) h.1 dX9_pass_44 rfl 2 rfl ?_
    refine G_aload_n (pc := 45) h.1 dX9_pass_45 rfl 0 rfl ?_
    refine G_callV (pc := 46) (As := []) (rest := [.int a2]) h.1 h.2.2.1 lk_X9_165 lN143 (eM143 _) rfl rfl (c_X9_aTick x.1.2.1 y hy M) rfl rfl (Nat.le_of_ble_eq_true rfl) ⟨rfl, rfl, Nat.le_of_ble_eq_true rfl, Nat.le_of_ble_eq_true rfl⟩ dX9_pass_46 (fun r6 M5 => ?_)
    refine G_iadd (pc := 49) h.1 dX9_pass_49 ?_
    refine G_top (fun v7 => ?_)
    refine G_istore_n (pc := 50) h.1 h.2.1 [(2, .int v7), (0, .ref (y.2.1 143)), (1, .int a1), (3, .int a3)] dX9_pass_50 rfl (by decide) rfl ?_
    refine G_iinc (pc := 51) (v := a3 + (1)) h.1 h.2.1 (fun v8 => [(3, .int v8), (2, .int v7), (0, .ref (y.2.1 143)), (1, .int a1)]) dX9_pass_51 (by decide) 3 rfl rfl (fun _ => rfl) (fun v8 => ?_)
    refine G_goto (pc := 54) (tgt := 39) h.1 dX9_pass_54 (by decide) ?_
    exact G_sub [2, 3, 1, 0] rfl (hb v7 v8 M5)
set_option maxRecDepth 20000 in
theorem gd_X9_pass_L39 {x : Cx} {y : Cy} (hy : Inj y) (h : OkM x y cX9_pass RX9 4 (some .int) rX9_pass) (a1 : Int32) (kx1 : Int32 → Mem → Ans) (hx1 : ∀ (b2 : Int32), ∀ M0 : Mem, G x y 57 [(2, .int b2)] [] M0 (kx1 b2 M0)) : ∀ (n : Nat) (a2 : Int32) (a3 : Int32) (M : Mem), G x y 39 [(0, .ref (y.2.1 143)), (1, .int a1), (2, .int a2), (3, .int a3)] [] M (d_X9_pass_L39 a1 kx1 n a2 a3 M) := by
  intro n
  induction n with
  | zero => intro a2 a3 M; exact G_none
  | succ n ih => intro a2 a3 M; exact gd_X9_pass_L39_body hy h a1 kx1 hx1 _ ih a2 a3 M
set_option maxRecDepth 20000 in
theorem c_X9_pass (l : Launch) (y : Cy) (hy : Inj y) (p1 : Int32) (M : Mem) : CT l y yX9_pass cX9_pass 4 (some .int) rX9_pass [.ref (y.2.1 143), .int p1] M (d_X9_pass p1 M) := by
  refine CT_of (by decide) hy (Nat.le_of_ble_eq_true rfl) (fun x hxl h => ?_)
  show G x y 0 [(0, .ref (y.2.1 143)), (1, .int p1)] [] M _
  unfold d_X9_pass
  refine G_iload_n (pc := 0) h.1 dX9_pass_0 rfl 1 rfl ?_
  refine G_iconst (pc := 1) (v := (1)) h.1 dX9_pass_1 (by decide) ?_
  refine G_sipush (pc := 2) (v := (200)) h.1 dX9_pass_2 (by decide) ?_
  refine G_callS (pc := 5) (As := [.int p1, .int (1 : Int32), .int (200 : Int32)]) (rest := []) h.1 h.2.2.1 lk_X9_52 (c_X9_in x.1.2.1 y hy p1 (1 : Int32) (200 : Int32) M) rfl rfl (Nat.le_of_ble_eq_true rfl) ⟨rfl, rfl, Nat.le_of_ble_eq_true rfl, Nat.le_of_ble_eq_true rfl⟩ dX9_pass_5 (fun r2 M1 => ?_)
  refine G_if_ne (pc := 8) (tgt := 14) h.1 dX9_pass_8 (by decide) ?_ ?_
  · refine G_aload_n (pc := 14) h.1 dX9_pass_14 rfl 0 rfl ?_
    refine G_get (pc := 15) (v := .ref (y.2.1 144)) h.1 fl_X9_7 lN143 (eM143 _) rfl dX9_pass_15 ?_
    refine G_iconst (pc := 18) (v := (0)) h.1 dX9_pass_18 (by decide) ?_
    refine G_iald (pc := 19) h.1 lN144 (eM144 _) dX9_pass_19 ?_
    refine G_iload_n (pc := 20) h.1 dX9_pass_20 rfl 1 rfl ?_
    refine G_iadd (pc := 21) h.1 dX9_pass_21 ?_
    refine G_sipush (pc := 22) (v := (9000)) h.1 dX9_pass_22 (by decide) ?_
    refine G_icmp_le (pc := 25) (tgt := 31) h.1 dX9_pass_25 (by decide) ?_ ?_
    · refine G_aload_n (pc := 31) h.1 dX9_pass_31 rfl 0 rfl ?_
      refine G_callVv (pc := 32) (As := []) (rest := []) h.1 h.2.2.1 lk_X9_107 lN143 (eM143 _) rfl rfl (c_X9_record x.1.2.1 y hy M1) rfl rfl (Nat.le_of_ble_eq_true rfl) ⟨rfl, rfl, Nat.le_of_ble_eq_true rfl, Nat.le_of_ble_eq_true rfl⟩ dX9_pass_32 (fun r4 M3 => ?_)
      refine G_iconst (pc := 35) (v := (0)) h.1 dX9_pass_35 (by decide) ?_
      refine G_istore_n (pc := 36) h.1 h.2.1 [(2, .int (0 : Int32)), (0, .ref (y.2.1 143)), (1, .int p1)] dX9_pass_36 rfl (by decide) rfl ?_
      refine G_iconst (pc := 37) (v := (0)) h.1 dX9_pass_37 (by decide) ?_
      refine G_istore_n (pc := 38) h.1 h.2.1 [(3, .int (0 : Int32)), (2, .int (0 : Int32)), (0, .ref (y.2.1 143)), (1, .int p1)] dX9_pass_38 rfl (by decide) rfl ?_
      refine G_sub [2, 3, 1, 0] rfl (gd_X9_pass_L39 hy h p1 _ (fun v9 M10 => ?_) fuelN (0 : Int32) (0 : Int32) M3)
      refine G_iload_n (pc := 57) h.1 dX9_pass_57 rfl 0 rfl ?_
      exact G_ret (pc := 58) h rfl dX9_pass_58
    · refine G_bipush (pc := 28) (v := (-4)) h.1 dX9_pass_28 (by decide) ?_
      exact G_ret (pc := 30) h rfl dX9_pass_30
  · refine G_bipush (pc := 11) (v := (-2)) h.1 dX9_pass_11 (by decide) ?_
    exact G_ret (pc := 13) h rfl dX9_pass_13
theorem dX9_type_0 : decode cX9_type 0 = .ok (.aload_n 0, 1) := by decide +kernel
theorem dX9_type_1 : decode cX9_type 1 = .ok (.getfield 168, 3) := by decide +kernel
theorem dX9_type_4 : decode cX9_type 4 = .ok (.bipush 60, 2) := by decide +kernel
theorem dX9_type_6 : decode cX9_type 6 = .ok (.if_icmp .ne 6, 3) := by decide +kernel
theorem dX9_type_9 : decode cX9_type 9 = .ok (.bipush (-3), 2) := by decide +kernel
theorem dX9_type_11 : decode cX9_type 11 = .ok (.ireturn, 1) := by decide +kernel
theorem dX9_type_12 : decode cX9_type 12 = .ok (.aload_n 0, 1) := by decide +kernel
theorem dX9_type_13 : decode cX9_type 13 = .ok (.getfield 48, 3) := by decide +kernel
theorem dX9_type_16 : decode cX9_type 16 = .ok (.aload_n 0, 1) := by decide +kernel
theorem dX9_type_17 : decode cX9_type 17 = .ok (.getfield 168, 3) := by decide +kernel
theorem dX9_type_20 : decode cX9_type 20 = .ok (.iload_n 1, 1) := by decide +kernel
theorem dX9_type_21 : decode cX9_type 21 = .ok (.castore, 1) := by decide +kernel
theorem dX9_type_22 : decode cX9_type 22 = .ok (.aload_n 0, 1) := by decide +kernel
theorem dX9_type_23 : decode cX9_type 23 = .ok (.dup, 1) := by decide +kernel
theorem dX9_type_24 : decode cX9_type 24 = .ok (.getfield 168, 3) := by decide +kernel
theorem dX9_type_27 : decode cX9_type 27 = .ok (.iconst 1, 1) := by decide +kernel
theorem dX9_type_28 : decode cX9_type 28 = .ok (.iadd, 1) := by decide +kernel
theorem dX9_type_29 : decode cX9_type 29 = .ok (.putfield 168, 3) := by decide +kernel
theorem dX9_type_32 : decode cX9_type 32 = .ok (.aload_n 0, 1) := by decide +kernel
theorem dX9_type_33 : decode cX9_type 33 = .ok (.getfield 168, 3) := by decide +kernel
theorem dX9_type_36 : decode cX9_type 36 = .ok (.ireturn, 1) := by decide +kernel
abbrev rX9_type : Room := { frames := 0, cells := 0, slots := 0, locals := 0 }
set_option maxRecDepth 20000 in
theorem c_X9_type (l : Launch) (y : Cy) (hy : Inj y) (p1 : Int32) (M : Mem) : CT l y yX9_type cX9_type 2 (some .int) rX9_type [.ref (y.2.1 143), .int p1] M (d_X9_type p1 M) := by
  refine CT_of (by decide) hy (Nat.le_of_ble_eq_true rfl) (fun x hxl h => ?_)
  show G x y 0 [(0, .ref (y.2.1 143)), (1, .int p1)] [] M _
  unfold d_X9_type
  refine G_aload_n (pc := 0) h.1 dX9_type_0 rfl 0 rfl ?_
  refine G_get (pc := 1) (v := .int (M 143 18)) h.1 fl_X9_168 lN143 (eM143 _) rfl dX9_type_1 ?_
  refine G_bipush (pc := 4) (v := (60)) h.1 dX9_type_4 (by decide) ?_
  refine G_icmp_ne (pc := 6) (tgt := 12) h.1 dX9_type_6 (by decide) ?_ ?_
  · refine G_aload_n (pc := 12) h.1 dX9_type_12 rfl 0 rfl ?_
    refine G_get (pc := 13) (v := .ref (y.2.1 153)) h.1 fl_X9_48 lN143 (eM143 _) rfl dX9_type_13 ?_
    refine G_aload_n (pc := 16) h.1 dX9_type_16 rfl 0 rfl ?_
    refine G_get (pc := 17) (v := .int (M 143 18)) h.1 fl_X9_168 lN143 (eM143 _) rfl dX9_type_17 ?_
    refine G_iload_n (pc := 20) h.1 dX9_type_20 rfl 1 rfl ?_
    refine G_cast (pc := 21) h.1 lN153 (fun m => eM153 m) dX9_type_21 (fun M1 => ?_)
    refine G_aload_n (pc := 22) h.1 dX9_type_22 rfl 0 rfl ?_
    refine G_dup (pc := 23) h.1 dX9_type_23 rfl ?_
    refine G_get (pc := 24) (v := .int (M1 143 18)) h.1 fl_X9_168 lN143 (eM143 _) rfl dX9_type_24 ?_
    refine G_iconst (pc := 27) (v := (1)) h.1 dX9_type_27 (by decide) ?_
    refine G_iadd (pc := 28) h.1 dX9_type_28 ?_
    refine G_put (pc := 29) h.1 fp_X9_168 lN143 (fun m => eM143 m) (fun _ => rfl) (fun _ => Nat.le_of_ble_eq_true rfl) rfl rfl dX9_type_29 (fun M2 => ?_)
    refine G_aload_n (pc := 32) h.1 dX9_type_32 rfl 0 rfl ?_
    refine G_get (pc := 33) (v := .int (M2 143 18)) h.1 fl_X9_168 lN143 (eM143 _) rfl dX9_type_33 ?_
    exact G_ret (pc := 36) h rfl dX9_type_36
  · refine G_bipush (pc := 9) (v := (-3)) h.1 dX9_type_9 (by decide) ?_
    exact G_ret (pc := 11) h rfl dX9_type_11
theorem dX9_clearText_0 : decode cX9_clearText 0 = .ok (.aload_n 0, 1) := by decide +kernel
theorem dX9_clearText_1 : decode cX9_clearText 1 = .ok (.getfield 168, 3) := by decide +kernel
theorem dX9_clearText_4 : decode cX9_clearText 4 = .ok (.istore_n 1, 1) := by decide +kernel
theorem dX9_clearText_5 : decode cX9_clearText 5 = .ok (.aload_n 0, 1) := by decide +kernel
theorem dX9_clearText_6 : decode cX9_clearText 6 = .ok (.iconst 0, 1) := by decide +kernel
theorem dX9_clearText_7 : decode cX9_clearText 7 = .ok (.putfield 168, 3) := by decide +kernel
theorem dX9_clearText_10 : decode cX9_clearText 10 = .ok (.iload_n 1, 1) := by decide +kernel
theorem dX9_clearText_11 : decode cX9_clearText 11 = .ok (.ireturn, 1) := by decide +kernel
abbrev rX9_clearText : Room := { frames := 0, cells := 0, slots := 0, locals := 0 }
set_option maxRecDepth 20000 in
theorem c_X9_clearText (l : Launch) (y : Cy) (hy : Inj y) (M : Mem) : CT l y yX9_clearText cX9_clearText 2 (some .int) rX9_clearText [.ref (y.2.1 143)] M (d_X9_clearText M) := by
  refine CT_of (by decide) hy (Nat.le_of_ble_eq_true rfl) (fun x hxl h => ?_)
  show G x y 0 [(0, .ref (y.2.1 143))] [] M _
  unfold d_X9_clearText
  refine G_aload_n (pc := 0) h.1 dX9_clearText_0 rfl 0 rfl ?_
  refine G_get (pc := 1) (v := .int (M 143 18)) h.1 fl_X9_168 lN143 (eM143 _) rfl dX9_clearText_1 ?_
  refine G_istore_n (pc := 4) h.1 h.2.1 [(1, .int (M 143 18)), (0, .ref (y.2.1 143))] dX9_clearText_4 rfl (by decide) rfl ?_
  refine G_aload_n (pc := 5) h.1 dX9_clearText_5 rfl 1 rfl ?_
  refine G_iconst (pc := 6) (v := (0)) h.1 dX9_clearText_6 (by decide) ?_
  refine G_put (pc := 7) h.1 fp_X9_168 lN143 (fun m => eM143 m) (fun _ => rfl) (fun _ => Nat.le_of_ble_eq_true rfl) rfl rfl dX9_clearText_7 (fun M1 => ?_)
  refine G_iload_n (pc := 10) h.1 dX9_clearText_10 rfl 0 rfl ?_
  exact G_ret (pc := 11) h rfl dX9_clearText_11
theorem dX9_isDigit_0 : decode cX9_isDigit 0 = .ok (.aload_n 0, 1) := by decide +kernel
theorem dX9_isDigit_1 : decode cX9_isDigit 1 = .ok (.getfield 171, 3) := by decide +kernel
theorem dX9_isDigit_4 : decode cX9_isDigit 4 = .ok (.aload_n 0, 1) := by decide +kernel
theorem dX9_isDigit_5 : decode cX9_isDigit 5 = .ok (.getfield 168, 3) := by decide +kernel
theorem dX9_isDigit_8 : decode cX9_isDigit 8 = .ok (.if_icmp .ge 26, 3) := by decide +kernel
theorem dX9_isDigit_11 : decode cX9_isDigit 11 = .ok (.aload_n 0, 1) := by decide +kernel
theorem dX9_isDigit_12 : decode cX9_isDigit 12 = .ok (.getfield 48, 3) := by decide +kernel
theorem dX9_isDigit_15 : decode cX9_isDigit 15 = .ok (.aload_n 0, 1) := by decide +kernel
theorem dX9_isDigit_16 : decode cX9_isDigit 16 = .ok (.getfield 171, 3) := by decide +kernel
theorem dX9_isDigit_19 : decode cX9_isDigit 19 = .ok (.caload, 1) := by decide +kernel
theorem dX9_isDigit_20 : decode cX9_isDigit 20 = .ok (.bipush 48, 2) := by decide +kernel
theorem dX9_isDigit_22 : decode cX9_isDigit 22 = .ok (.bipush 57, 2) := by decide +kernel
theorem dX9_isDigit_24 : decode cX9_isDigit 24 = .ok (.invokestatic 52, 3) := by decide +kernel
theorem dX9_isDigit_27 : decode cX9_isDigit 27 = .ok (.ifCond .eq 7, 3) := by decide +kernel
theorem dX9_isDigit_30 : decode cX9_isDigit 30 = .ok (.iconst 1, 1) := by decide +kernel
theorem dX9_isDigit_31 : decode cX9_isDigit 31 = .ok (.goto 4, 3) := by decide +kernel
theorem dX9_isDigit_34 : decode cX9_isDigit 34 = .ok (.iconst 0, 1) := by decide +kernel
theorem dX9_isDigit_35 : decode cX9_isDigit 35 = .ok (.ireturn, 1) := by decide +kernel
abbrev rX9_isDigit : Room := { frames := 1, cells := 0, slots := 0, locals := 22 }
set_option maxRecDepth 20000 in
theorem c_X9_isDigit (l : Launch) (y : Cy) (hy : Inj y) (M : Mem) : CT l y yX9_isDigit cX9_isDigit 1 (some .boolean) rX9_isDigit [.ref (y.2.1 143)] M (d_X9_isDigit M) := by
  refine CT_of (by decide) hy (Nat.le_of_ble_eq_true rfl) (fun x hxl h => ?_)
  show G x y 0 [(0, .ref (y.2.1 143))] [] M _
  unfold d_X9_isDigit
  refine G_aload_n (pc := 0) h.1 dX9_isDigit_0 rfl 0 rfl ?_
  refine G_get (pc := 1) (v := .int (M 143 20)) h.1 fl_X9_171 lN143 (eM143 _) rfl dX9_isDigit_1 ?_
  refine G_aload_n (pc := 4) h.1 dX9_isDigit_4 rfl 0 rfl ?_
  refine G_get (pc := 5) (v := .int (M 143 18)) h.1 fl_X9_168 lN143 (eM143 _) rfl dX9_isDigit_5 ?_
  refine G_icmp_ge (pc := 8) (tgt := 34) h.1 dX9_isDigit_8 (by decide) ?_ ?_
  · refine G_iconst (pc := 34) (v := (0)) h.1 dX9_isDigit_34 (by decide) ?_
    exact G_ret (pc := 35) h rfl dX9_isDigit_35
  · refine G_aload_n (pc := 11) h.1 dX9_isDigit_11 rfl 0 rfl ?_
    refine G_get (pc := 12) (v := .ref (y.2.1 153)) h.1 fl_X9_48 lN143 (eM143 _) rfl dX9_isDigit_12 ?_
    refine G_aload_n (pc := 15) h.1 dX9_isDigit_15 rfl 0 rfl ?_
    refine G_get (pc := 16) (v := .int (M 143 20)) h.1 fl_X9_171 lN143 (eM143 _) rfl dX9_isDigit_16 ?_
    refine G_cald (pc := 19) h.1 lN153 (eM153 _) dX9_isDigit_19 ?_
    refine G_bipush (pc := 20) (v := (48)) h.1 dX9_isDigit_20 (by decide) ?_
    refine G_bipush (pc := 22) (v := (57)) h.1 dX9_isDigit_22 (by decide) ?_
    refine G_callS (pc := 24) (As := [.int (M 153 ((M 143 20)).toNatClampNeg), .int (48 : Int32), .int (57 : Int32)]) (rest := []) h.1 h.2.2.1 lk_X9_52 (c_X9_in x.1.2.1 y hy (M 153 ((M 143 20)).toNatClampNeg) (48 : Int32) (57 : Int32) M) rfl rfl (Nat.le_of_ble_eq_true rfl) ⟨rfl, rfl, Nat.le_of_ble_eq_true rfl, Nat.le_of_ble_eq_true rfl⟩ dX9_isDigit_24 (fun r2 M1 => ?_)
    refine G_if_eq (pc := 27) (tgt := 34) h.1 dX9_isDigit_27 (by decide) ?_ ?_
    · refine G_iconst (pc := 34) (v := (0)) h.1 dX9_isDigit_34 (by decide) ?_
      exact G_ret (pc := 35) h rfl dX9_isDigit_35
    · refine G_iconst (pc := 30) (v := (1)) h.1 dX9_isDigit_30 (by decide) ?_
      refine G_goto (pc := 31) (tgt := 35) h.1 dX9_isDigit_31 (by decide) ?_
      exact G_ret (pc := 35) h rfl dX9_isDigit_35
theorem dX9_takes_0 : decode cX9_takes 0 = .ok (.aload_n 0, 1) := by decide +kernel
theorem dX9_takes_1 : decode cX9_takes 1 = .ok (.getfield 171, 3) := by decide +kernel
theorem dX9_takes_4 : decode cX9_takes 4 = .ok (.aload_n 0, 1) := by decide +kernel
theorem dX9_takes_5 : decode cX9_takes 5 = .ok (.getfield 168, 3) := by decide +kernel
theorem dX9_takes_8 : decode cX9_takes 8 = .ok (.if_icmp .eq 16, 3) := by decide +kernel
theorem dX9_takes_11 : decode cX9_takes 11 = .ok (.aload_n 0, 1) := by decide +kernel
theorem dX9_takes_12 : decode cX9_takes 12 = .ok (.getfield 48, 3) := by decide +kernel
theorem dX9_takes_15 : decode cX9_takes 15 = .ok (.aload_n 0, 1) := by decide +kernel
theorem dX9_takes_16 : decode cX9_takes 16 = .ok (.getfield 171, 3) := by decide +kernel
theorem dX9_takes_19 : decode cX9_takes 19 = .ok (.caload, 1) := by decide +kernel
theorem dX9_takes_20 : decode cX9_takes 20 = .ok (.iload_n 1, 1) := by decide +kernel
theorem dX9_takes_21 : decode cX9_takes 21 = .ok (.if_icmp .eq 5, 3) := by decide +kernel
theorem dX9_takes_24 : decode cX9_takes 24 = .ok (.iconst 0, 1) := by decide +kernel
theorem dX9_takes_25 : decode cX9_takes 25 = .ok (.ireturn, 1) := by decide +kernel
theorem dX9_takes_26 : decode cX9_takes 26 = .ok (.aload_n 0, 1) := by decide +kernel
theorem dX9_takes_27 : decode cX9_takes 27 = .ok (.dup, 1) := by decide +kernel
theorem dX9_takes_28 : decode cX9_takes 28 = .ok (.getfield 171, 3) := by decide +kernel
theorem dX9_takes_31 : decode cX9_takes 31 = .ok (.iconst 1, 1) := by decide +kernel
theorem dX9_takes_32 : decode cX9_takes 32 = .ok (.iadd, 1) := by decide +kernel
theorem dX9_takes_33 : decode cX9_takes 33 = .ok (.putfield 171, 3) := by decide +kernel
theorem dX9_takes_36 : decode cX9_takes 36 = .ok (.iconst 1, 1) := by decide +kernel
theorem dX9_takes_37 : decode cX9_takes 37 = .ok (.ireturn, 1) := by decide +kernel
abbrev rX9_takes : Room := { frames := 0, cells := 0, slots := 0, locals := 0 }
set_option maxRecDepth 20000 in
theorem c_X9_takes (l : Launch) (y : Cy) (hy : Inj y) (p1 : Int32) (M : Mem) : CT l y yX9_takes cX9_takes 2 (some .boolean) rX9_takes [.ref (y.2.1 143), .int p1] M (d_X9_takes p1 M) := by
  refine CT_of (by decide) hy (Nat.le_of_ble_eq_true rfl) (fun x hxl h => ?_)
  show G x y 0 [(0, .ref (y.2.1 143)), (1, .int p1)] [] M _
  unfold d_X9_takes
  refine G_aload_n (pc := 0) h.1 dX9_takes_0 rfl 0 rfl ?_
  refine G_get (pc := 1) (v := .int (M 143 20)) h.1 fl_X9_171 lN143 (eM143 _) rfl dX9_takes_1 ?_
  refine G_aload_n (pc := 4) h.1 dX9_takes_4 rfl 0 rfl ?_
  refine G_get (pc := 5) (v := .int (M 143 18)) h.1 fl_X9_168 lN143 (eM143 _) rfl dX9_takes_5 ?_
  refine G_icmp_eq (pc := 8) (tgt := 24) h.1 dX9_takes_8 (by decide) ?_ ?_
  · refine G_iconst (pc := 24) (v := (0)) h.1 dX9_takes_24 (by decide) ?_
    exact G_ret (pc := 25) h rfl dX9_takes_25
  · refine G_aload_n (pc := 11) h.1 dX9_takes_11 rfl 0 rfl ?_
    refine G_get (pc := 12) (v := .ref (y.2.1 153)) h.1 fl_X9_48 lN143 (eM143 _) rfl dX9_takes_12 ?_
    refine G_aload_n (pc := 15) h.1 dX9_takes_15 rfl 0 rfl ?_
    refine G_get (pc := 16) (v := .int (M 143 20)) h.1 fl_X9_171 lN143 (eM143 _) rfl dX9_takes_16 ?_
    refine G_cald (pc := 19) h.1 lN153 (eM153 _) dX9_takes_19 ?_
    refine G_iload_n (pc := 20) h.1 dX9_takes_20 rfl 1 rfl ?_
    refine G_icmp_eq (pc := 21) (tgt := 26) h.1 dX9_takes_21 (by decide) ?_ ?_
    · refine G_aload_n (pc := 26) h.1 dX9_takes_26 rfl 0 rfl ?_
      refine G_dup (pc := 27) h.1 dX9_takes_27 rfl ?_
      refine G_get (pc := 28) (v := .int (M 143 20)) h.1 fl_X9_171 lN143 (eM143 _) rfl dX9_takes_28 ?_
      refine G_iconst (pc := 31) (v := (1)) h.1 dX9_takes_31 (by decide) ?_
      refine G_iadd (pc := 32) h.1 dX9_takes_32 ?_
      refine G_put (pc := 33) h.1 fp_X9_171 lN143 (fun m => eM143 m) (fun _ => rfl) (fun _ => Nat.le_of_ble_eq_true rfl) rfl rfl dX9_takes_33 (fun M1 => ?_)
      refine G_iconst (pc := 36) (v := (1)) h.1 dX9_takes_36 (by decide) ?_
      exact G_ret (pc := 37) h rfl dX9_takes_37
    · refine G_iconst (pc := 24) (v := (0)) h.1 dX9_takes_24 (by decide) ?_
      exact G_ret (pc := 25) h rfl dX9_takes_25
theorem dX9_takesNumber_0 : decode cX9_takesNumber 0 = .ok (.aload_n 0, 1) := by decide +kernel
theorem dX9_takesNumber_1 : decode cX9_takesNumber 1 = .ok (.invokevirtual 174, 3) := by decide +kernel
theorem dX9_takesNumber_4 : decode cX9_takesNumber 4 = .ok (.ifCond .ne 5, 3) := by decide +kernel
theorem dX9_takesNumber_7 : decode cX9_takesNumber 7 = .ok (.iconst 0, 1) := by decide +kernel
theorem dX9_takesNumber_8 : decode cX9_takesNumber 8 = .ok (.ireturn, 1) := by decide +kernel
theorem dX9_takesNumber_9 : decode cX9_takesNumber 9 = .ok (.aload_n 0, 1) := by decide +kernel
theorem dX9_takesNumber_10 : decode cX9_takesNumber 10 = .ok (.aload_n 0, 1) := by decide +kernel
theorem dX9_takesNumber_11 : decode cX9_takesNumber 11 = .ok (.getfield 48, 3) := by decide +kernel
theorem dX9_takesNumber_14 : decode cX9_takesNumber 14 = .ok (.aload_n 0, 1) := by decide +kernel
theorem dX9_takesNumber_15 : decode cX9_takesNumber 15 = .ok (.getfield 171, 3) := by decide +kernel
theorem dX9_takesNumber_18 : decode cX9_takesNumber 18 = .ok (.caload, 1) := by decide +kernel
theorem dX9_takesNumber_19 : decode cX9_takesNumber 19 = .ok (.bipush 48, 2) := by decide +kernel
theorem dX9_takesNumber_21 : decode cX9_takesNumber 21 = .ok (.isub, 1) := by decide +kernel
theorem dX9_takesNumber_22 : decode cX9_takesNumber 22 = .ok (.putfield 178, 3) := by decide +kernel
theorem dX9_takesNumber_25 : decode cX9_takesNumber 25 = .ok (.aload_n 0, 1) := by decide +kernel
theorem dX9_takesNumber_26 : decode cX9_takesNumber 26 = .ok (.dup, 1) := by decide +kernel
theorem dX9_takesNumber_27 : decode cX9_takesNumber 27 = .ok (.getfield 171, 3) := by decide +kernel
theorem dX9_takesNumber_30 : decode cX9_takesNumber 30 = .ok (.iconst 1, 1) := by decide +kernel
theorem dX9_takesNumber_31 : decode cX9_takesNumber 31 = .ok (.iadd, 1) := by decide +kernel
theorem dX9_takesNumber_32 : decode cX9_takesNumber 32 = .ok (.putfield 171, 3) := by decide +kernel
theorem dX9_takesNumber_35 : decode cX9_takesNumber 35 = .ok (.iconst 1, 1) := by decide +kernel
theorem dX9_takesNumber_36 : decode cX9_takesNumber 36 = .ok (.istore_n 2, 1) := by decide +kernel
theorem dX9_takesNumber_37 : decode cX9_takesNumber 37 = .ok (.iload_n 2, 1) := by decide +kernel
theorem dX9_takesNumber_38 : decode cX9_takesNumber 38 = .ok (.iload_n 1, 1) := by decide +kernel
theorem dX9_takesNumber_39 : decode cX9_takesNumber 39 = .ok (.if_icmp .ge 57, 3) := by decide +kernel
theorem dX9_takesNumber_42 : decode cX9_takesNumber 42 = .ok (.aload_n 0, 1) := by decide +kernel
theorem dX9_takesNumber_43 : decode cX9_takesNumber 43 = .ok (.getfield 178, 3) := by decide +kernel
theorem dX9_takesNumber_46 : decode cX9_takesNumber 46 = .ok (.ifCond .le 50, 3) := by decide +kernel
theorem dX9_takesNumber_49 : decode cX9_takesNumber 49 = .ok (.aload_n 0, 1) := by decide +kernel
theorem dX9_takesNumber_50 : decode cX9_takesNumber 50 = .ok (.invokevirtual 174, 3) := by decide +kernel
theorem dX9_takesNumber_53 : decode cX9_takesNumber 53 = .ok (.ifCond .eq 43, 3) := by decide +kernel
theorem dX9_takesNumber_56 : decode cX9_takesNumber 56 = .ok (.aload_n 0, 1) := by decide +kernel
theorem dX9_takesNumber_57 : decode cX9_takesNumber 57 = .ok (.bipush 10, 2) := by decide +kernel
theorem dX9_takesNumber_59 : decode cX9_takesNumber 59 = .ok (.aload_n 0, 1) := by decide +kernel
theorem dX9_takesNumber_60 : decode cX9_takesNumber 60 = .ok (.getfield 178, 3) := by decide +kernel
theorem dX9_takesNumber_63 : decode cX9_takesNumber 63 = .ok (.imul, 1) := by decide +kernel
theorem dX9_takesNumber_64 : decode cX9_takesNumber 64 = .ok (.aload_n 0, 1) := by decide +kernel
theorem dX9_takesNumber_65 : decode cX9_takesNumber 65 = .ok (.getfield 48, 3) := by decide +kernel
theorem dX9_takesNumber_68 : decode cX9_takesNumber 68 = .ok (.aload_n 0, 1) := by decide +kernel
theorem dX9_takesNumber_69 : decode cX9_takesNumber 69 = .ok (.getfield 171, 3) := by decide +kernel
theorem dX9_takesNumber_72 : decode cX9_takesNumber 72 = .ok (.caload, 1) := by decide +kernel
theorem dX9_takesNumber_73 : decode cX9_takesNumber 73 = .ok (.iadd, 1) := by decide +kernel
theorem dX9_takesNumber_74 : decode cX9_takesNumber 74 = .ok (.bipush 48, 2) := by decide +kernel
theorem dX9_takesNumber_76 : decode cX9_takesNumber 76 = .ok (.isub, 1) := by decide +kernel
theorem dX9_takesNumber_77 : decode cX9_takesNumber 77 = .ok (.putfield 178, 3) := by decide +kernel
theorem dX9_takesNumber_80 : decode cX9_takesNumber 80 = .ok (.aload_n 0, 1) := by decide +kernel
theorem dX9_takesNumber_81 : decode cX9_takesNumber 81 = .ok (.dup, 1) := by decide +kernel
theorem dX9_takesNumber_82 : decode cX9_takesNumber 82 = .ok (.getfield 171, 3) := by decide +kernel
theorem dX9_takesNumber_85 : decode cX9_takesNumber 85 = .ok (.iconst 1, 1) := by decide +kernel
theorem dX9_takesNumber_86 : decode cX9_takesNumber 86 = .ok (.iadd, 1) := by decide +kernel
theorem dX9_takesNumber_87 : decode cX9_takesNumber 87 = .ok (.putfield 171, 3) := by decide +kernel
theorem dX9_takesNumber_90 : decode cX9_takesNumber 90 = .ok (.iinc 2 1, 3) := by decide +kernel
theorem dX9_takesNumber_93 : decode cX9_takesNumber 93 = .ok (.goto (-56), 3) := by decide +kernel
theorem dX9_takesNumber_96 : decode cX9_takesNumber 96 = .ok (.iconst 1, 1) := by decide +kernel
theorem dX9_takesNumber_97 : decode cX9_takesNumber 97 = .ok (.ireturn, 1) := by decide +kernel
abbrev rX9_takesNumber : Room := { frames := 2, cells := 0, slots := 0, locals := 42 }
set_option maxRecDepth 20000 in
theorem gd_X9_takesNumber_L37_body {x : Cx} {y : Cy} (hy : Inj y) (h : OkM x y cX9_takesNumber RX9 3 (some .boolean) rX9_takesNumber) (a1 : Int32) (kx1 : Mem → Ans) (hx1 : ∀ M0 : Mem, G x y 96 [] [] M0 (kx1 M0)) (kb : Int32 → Mem → Ans) (hb : ∀ (b2 : Int32), ∀ M0 : Mem, G x y 37 [(0, .ref (y.2.1 143)), (1, .int a1), (2, .int b2)] [] M0 (kb b2 M0)) (a2 : Int32) (M : Mem) : G x y 37 [(0, .ref (y.2.1 143)), (1, .int a1), (2, .int a2)] [] M (d_X9_takesNumber_L37_body a1 kx1 kb a2 M) := by
  unfold d_X9_takesNumber_L37_body
  refine G_iload_n (pc := 37) h.1 dX9_takesNumber_37 rfl 2 rfl ?_
  refine G_iload_n (pc := 38) h.1 dX9_takesNumber_38 rfl 1 rfl ?_
  refine G_icmp_ge (pc := 39) (tgt := 96) h.1 dX9_takesNumber_39 (by decide) ?_ ?_
  · exact G_sub [] rfl (hx1 M)
  · refine G_aload_n (pc := 42) h.1 dX9_takesNumber_42 rfl 0 rfl ?_
    refine G_get (pc := 43) (v := .int (M 143 21)) h.1 fl_X9_178 lN143 (eM143 _) rfl dX9_takesNumber_43 ?_
    refine G_if_le (pc := 46) (tgt := 96) h.1 dX9_takesNumber_46 (by decide) ?_ ?_
    · exact G_sub [] rfl (hx1 M)
    · refine G_aload_n (pc := 49) h.1 dX9_takesNumber_49 rfl 0 rfl ?_
      refine G_callV (pc := 50) (As := []) (rest := []) h.1 h.2.2.1 lk_X9_174 lN143 (eM143 _) rfl rfl (c_X9_isDigit x.1.2.1 y hy M) rfl rfl (Nat.le_of_ble_eq_true rfl) ⟨rfl, rfl, Nat.le_of_ble_eq_true rfl, Nat.le_of_ble_eq_true rfl⟩ dX9_takesNumber_50 (fun r6 M5 => ?_)
      refine G_if_eq (pc := 53) (tgt := 96) h.1 dX9_takesNumber_53 (by decide) ?_ ?_
      · exact G_sub [] rfl (hx1 M5)
      · refine G_aload_n (pc := 56) h.1 dX9_takesNumber_56 rfl 0 rfl ?_
        refine G_bipush (pc := 57) (v := (10)) h.1 dX9_takesNumber_57 (by decide) ?_
        refine G_aload_n (pc := 59) h.1 dX9_takesNumber_59 rfl 0 rfl ?_
        refine G_get (pc := 60) (v := .int (M5 143 21)) h.1 fl_X9_178 lN143 (eM143 _) rfl dX9_takesNumber_60 ?_
        refine G_imul (pc := 63) h.1 dX9_takesNumber_63 ?_
        refine G_aload_n (pc := 64) h.1 dX9_takesNumber_64 rfl 0 rfl ?_
        refine G_get (pc := 65) (v := .ref (y.2.1 153)) h.1 fl_X9_48 lN143 (eM143 _) rfl dX9_takesNumber_65 ?_
        refine G_aload_n (pc := 68) h.1 dX9_takesNumber_68 rfl 0 rfl ?_
        refine G_get (pc := 69) (v := .int (M5 143 20)) h.1 fl_X9_171 lN143 (eM143 _) rfl dX9_takesNumber_69 ?_
        refine G_cald (pc := 72) h.1 lN153 (eM153 _) dX9_takesNumber_72 ?_
        refine G_iadd (pc := 73) h.1 dX9_takesNumber_73 ?_
        refine G_bipush (pc := 74) (v := (48)) h.1 dX9_takesNumber_74 (by decide) ?_
        refine G_isub (pc := 76) h.1 dX9_takesNumber_76 ?_
        refine G_put (pc := 77) h.1 fp_X9_178 lN143 (fun m => eM143 m) (fun _ => rfl) (fun _ => Nat.le_of_ble_eq_true rfl) rfl rfl dX9_takesNumber_77 (fun M7 => ?_)
        refine G_aload_n (pc := 80) h.1 dX9_takesNumber_80 rfl 0 rfl ?_
        refine G_dup (pc := 81) h.1 dX9_takesNumber_81 rfl ?_
        refine G_get (pc := 82) (v := .int (M7 143 20)) h.1 fl_X9_171 lN143 (eM143 _) rfl dX9_takesNumber_82 ?_
        refine G_iconst (pc := 85) (v := (1)) h.1 dX9_takesNumber_85 (by decide) ?_
        refine G_iadd (pc := 86) h.1 dX9_takesNumber_86 ?_
        refine G_put (pc := 87) h.1 fp_X9_171 lN143 (fun m => eM143 m) (fun _ => rfl) (fun _ => Nat.le_of_ble_eq_true rfl) rfl rfl dX9_takesNumber_87 (fun M8 => ?_)
        refine G_iinc (pc := 90) (v := a2 + (1)) h.1 h.2.1 (fun v9 => [(2, .int v9), (0, .ref (y.2.1 143)), (1, .int a1)]) dX9_takesNumber_90 (by decide) 2 rfl rfl (fun _ => rfl) (fun v9 => ?_)
        refine G_goto (pc := 93) (tgt := 37) h.1 dX9_takesNumber_93 (by decide) ?_
        exact G_sub [1, 2, 0] rfl (hb v9 M8)
set_option maxRecDepth 20000 in
theorem gd_X9_takesNumber_L37 {x : Cx} {y : Cy} (hy : Inj y) (h : OkM x y cX9_takesNumber RX9 3 (some .boolean) rX9_takesNumber) (a1 : Int32) (kx1 : Mem → Ans) (hx1 : ∀ M0 : Mem, G x y 96 [] [] M0 (kx1 M0)) : ∀ (n : Nat) (a2 : Int32) (M : Mem), G x y 37 [(0, .ref (y.2.1 143)), (1, .int a1), (2, .int a2)] [] M (d_X9_takesNumber_L37 a1 kx1 n a2 M) := by
  intro n
  induction n with
  | zero => intro a2 M; exact G_none
  | succ n ih => intro a2 M; exact gd_X9_takesNumber_L37_body hy h a1 kx1 hx1 _ ih a2 M
set_option maxRecDepth 20000 in
theorem c_X9_takesNumber (l : Launch) (y : Cy) (hy : Inj y) (p1 : Int32) (M : Mem) : CT l y yX9_takesNumber cX9_takesNumber 3 (some .boolean) rX9_takesNumber [.ref (y.2.1 143), .int p1] M (d_X9_takesNumber p1 M) := by
  refine CT_of (by decide) hy (Nat.le_of_ble_eq_true rfl) (fun x hxl h => ?_)
  show G x y 0 [(0, .ref (y.2.1 143)), (1, .int p1)] [] M _
  unfold d_X9_takesNumber
  refine G_aload_n (pc := 0) h.1 dX9_takesNumber_0 rfl 0 rfl ?_
  refine G_callV (pc := 1) (As := []) (rest := []) h.1 h.2.2.1 lk_X9_174 lN143 (eM143 _) rfl rfl (c_X9_isDigit x.1.2.1 y hy M) rfl rfl (Nat.le_of_ble_eq_true rfl) ⟨rfl, rfl, Nat.le_of_ble_eq_true rfl, Nat.le_of_ble_eq_true rfl⟩ dX9_takesNumber_1 (fun r2 M1 => ?_)
  refine G_if_ne (pc := 4) (tgt := 9) h.1 dX9_takesNumber_4 (by decide) ?_ ?_
  · refine G_aload_n (pc := 9) h.1 dX9_takesNumber_9 rfl 0 rfl ?_
    refine G_aload_n (pc := 10) h.1 dX9_takesNumber_10 rfl 0 rfl ?_
    refine G_get (pc := 11) (v := .ref (y.2.1 153)) h.1 fl_X9_48 lN143 (eM143 _) rfl dX9_takesNumber_11 ?_
    refine G_aload_n (pc := 14) h.1 dX9_takesNumber_14 rfl 0 rfl ?_
    refine G_get (pc := 15) (v := .int (M1 143 20)) h.1 fl_X9_171 lN143 (eM143 _) rfl dX9_takesNumber_15 ?_
    refine G_cald (pc := 18) h.1 lN153 (eM153 _) dX9_takesNumber_18 ?_
    refine G_bipush (pc := 19) (v := (48)) h.1 dX9_takesNumber_19 (by decide) ?_
    refine G_isub (pc := 21) h.1 dX9_takesNumber_21 ?_
    refine G_put (pc := 22) h.1 fp_X9_178 lN143 (fun m => eM143 m) (fun _ => rfl) (fun _ => Nat.le_of_ble_eq_true rfl) rfl rfl dX9_takesNumber_22 (fun M3 => ?_)
    refine G_aload_n (pc := 25) h.1 dX9_takesNumber_25 rfl 0 rfl ?_
    refine G_dup (pc := 26) h.1 dX9_takesNumber_26 rfl ?_
    refine G_get (pc := 27) (v := .int (M3 143 20)) h.1 fl_X9_171 lN143 (eM143 _) rfl dX9_takesNumber_27 ?_
    refine G_iconst (pc := 30) (v := (1)) h.1 dX9_takesNumber_30 (by decide) ?_
    refine G_iadd (pc := 31) h.1 dX9_takesNumber_31 ?_
    refine G_put (pc := 32) h.1 fp_X9_171 lN143 (fun m => eM143 m) (fun _ => rfl) (fun _ => Nat.le_of_ble_eq_true rfl) rfl rfl dX9_takesNumber_32 (fun M4 => ?_)
    refine G_iconst (pc := 35) (v := (1)) h.1 dX9_takesNumber_35 (by decide) ?_
    refine G_istore_n (pc := 36) h.1 h.2.1 [(2, .int (1 : Int32)), (0, .ref (y.2.1 143)), (1, .int p1)] dX9_takesNumber_36 rfl (by decide) rfl ?_
    refine G_sub [1, 2, 0] rfl (gd_X9_takesNumber_L37 hy h p1 _ (fun M10 => ?_) fuelN (1 : Int32) M4)
    refine G_iconst (pc := 96) (v := (1)) h.1 dX9_takesNumber_96 (by decide) ?_
    exact G_ret (pc := 97) h rfl dX9_takesNumber_97
  · refine G_iconst (pc := 7) (v := (0)) h.1 dX9_takesNumber_7 (by decide) ?_
    exact G_ret (pc := 8) h rfl dX9_takesNumber_8
theorem dX9_takesBooking_0 : decode cX9_takesBooking 0 = .ok (.aload_n 0, 1) := by decide +kernel
theorem dX9_takesBooking_1 : decode cX9_takesBooking 1 = .ok (.iconst 1, 1) := by decide +kernel
theorem dX9_takesBooking_2 : decode cX9_takesBooking 2 = .ok (.invokevirtual 181, 3) := by decide +kernel
theorem dX9_takesBooking_5 : decode cX9_takesBooking 5 = .ok (.ifCond .ne 5, 3) := by decide +kernel
theorem dX9_takesBooking_8 : decode cX9_takesBooking 8 = .ok (.iconst 0, 1) := by decide +kernel
theorem dX9_takesBooking_9 : decode cX9_takesBooking 9 = .ok (.ireturn, 1) := by decide +kernel
theorem dX9_takesBooking_10 : decode cX9_takesBooking 10 = .ok (.aload_n 0, 1) := by decide +kernel
theorem dX9_takesBooking_11 : decode cX9_takesBooking 11 = .ok (.aload_n 0, 1) := by decide +kernel
theorem dX9_takesBooking_12 : decode cX9_takesBooking 12 = .ok (.getfield 178, 3) := by decide +kernel
theorem dX9_takesBooking_15 : decode cX9_takesBooking 15 = .ok (.putfield 184, 3) := by decide +kernel
theorem dX9_takesBooking_18 : decode cX9_takesBooking 18 = .ok (.aload_n 0, 1) := by decide +kernel
theorem dX9_takesBooking_19 : decode cX9_takesBooking 19 = .ok (.bipush 58, 2) := by decide +kernel
theorem dX9_takesBooking_21 : decode cX9_takesBooking 21 = .ok (.invokevirtual 187, 3) := by decide +kernel
theorem dX9_takesBooking_24 : decode cX9_takesBooking 24 = .ok (.ifCond .eq 11, 3) := by decide +kernel
theorem dX9_takesBooking_27 : decode cX9_takesBooking 27 = .ok (.aload_n 0, 1) := by decide +kernel
theorem dX9_takesBooking_28 : decode cX9_takesBooking 28 = .ok (.iconst 1, 1) := by decide +kernel
theorem dX9_takesBooking_29 : decode cX9_takesBooking 29 = .ok (.invokevirtual 181, 3) := by decide +kernel
theorem dX9_takesBooking_32 : decode cX9_takesBooking 32 = .ok (.ifCond .ne 5, 3) := by decide +kernel
theorem dX9_takesBooking_35 : decode cX9_takesBooking 35 = .ok (.iconst 0, 1) := by decide +kernel
theorem dX9_takesBooking_36 : decode cX9_takesBooking 36 = .ok (.ireturn, 1) := by decide +kernel
theorem dX9_takesBooking_37 : decode cX9_takesBooking 37 = .ok (.aload_n 0, 1) := by decide +kernel
theorem dX9_takesBooking_38 : decode cX9_takesBooking 38 = .ok (.aload_n 0, 1) := by decide +kernel
theorem dX9_takesBooking_39 : decode cX9_takesBooking 39 = .ok (.getfield 178, 3) := by decide +kernel
theorem dX9_takesBooking_42 : decode cX9_takesBooking 42 = .ok (.putfield 190, 3) := by decide +kernel
theorem dX9_takesBooking_45 : decode cX9_takesBooking 45 = .ok (.aload_n 0, 1) := by decide +kernel
theorem dX9_takesBooking_46 : decode cX9_takesBooking 46 = .ok (.bipush 64, 2) := by decide +kernel
theorem dX9_takesBooking_48 : decode cX9_takesBooking 48 = .ok (.invokevirtual 187, 3) := by decide +kernel
theorem dX9_takesBooking_51 : decode cX9_takesBooking 51 = .ok (.ifCond .eq 15, 3) := by decide +kernel
theorem dX9_takesBooking_54 : decode cX9_takesBooking 54 = .ok (.aload_n 0, 1) := by decide +kernel
theorem dX9_takesBooking_55 : decode cX9_takesBooking 55 = .ok (.iconst 4, 1) := by decide +kernel
theorem dX9_takesBooking_56 : decode cX9_takesBooking 56 = .ok (.invokevirtual 181, 3) := by decide +kernel
theorem dX9_takesBooking_59 : decode cX9_takesBooking 59 = .ok (.ifCond .eq 7, 3) := by decide +kernel
theorem dX9_takesBooking_62 : decode cX9_takesBooking 62 = .ok (.iconst 1, 1) := by decide +kernel
theorem dX9_takesBooking_63 : decode cX9_takesBooking 63 = .ok (.goto 4, 3) := by decide +kernel
theorem dX9_takesBooking_66 : decode cX9_takesBooking 66 = .ok (.iconst 0, 1) := by decide +kernel
theorem dX9_takesBooking_67 : decode cX9_takesBooking 67 = .ok (.ireturn, 1) := by decide +kernel
abbrev rX9_takesBooking : Room := { frames := 3, cells := 0, slots := 0, locals := 64 }
set_option maxRecDepth 20000 in
theorem c_X9_takesBooking (l : Launch) (y : Cy) (hy : Inj y) (M : Mem) : CT l y yX9_takesBooking cX9_takesBooking 1 (some .boolean) rX9_takesBooking [.ref (y.2.1 143)] M (d_X9_takesBooking M) := by
  refine CT_of (by decide) hy (Nat.le_of_ble_eq_true rfl) (fun x hxl h => ?_)
  show G x y 0 [(0, .ref (y.2.1 143))] [] M _
  unfold d_X9_takesBooking
  refine G_aload_n (pc := 0) h.1 dX9_takesBooking_0 rfl 0 rfl ?_
  refine G_iconst (pc := 1) (v := (1)) h.1 dX9_takesBooking_1 (by decide) ?_
  refine G_callV (pc := 2) (As := [.int (1 : Int32)]) (rest := []) h.1 h.2.2.1 lk_X9_181 lN143 (eM143 _) rfl rfl (c_X9_takesNumber x.1.2.1 y hy (1 : Int32) M) rfl rfl (Nat.le_of_ble_eq_true rfl) ⟨rfl, rfl, Nat.le_of_ble_eq_true rfl, Nat.le_of_ble_eq_true rfl⟩ dX9_takesBooking_2 (fun r2 M1 => ?_)
  refine G_if_ne (pc := 5) (tgt := 10) h.1 dX9_takesBooking_5 (by decide) ?_ ?_
  · refine G_aload_n (pc := 10) h.1 dX9_takesBooking_10 rfl 0 rfl ?_
    refine G_aload_n (pc := 11) h.1 dX9_takesBooking_11 rfl 0 rfl ?_
    refine G_get (pc := 12) (v := .int (M1 143 21)) h.1 fl_X9_178 lN143 (eM143 _) rfl dX9_takesBooking_12 ?_
    refine G_put (pc := 15) h.1 fp_X9_184 lN143 (fun m => eM143 m) (fun _ => rfl) (fun _ => Nat.le_of_ble_eq_true rfl) rfl rfl dX9_takesBooking_15 (fun M3 => ?_)
    refine G_aload_n (pc := 18) h.1 dX9_takesBooking_18 rfl 0 rfl ?_
    refine G_bipush (pc := 19) (v := (58)) h.1 dX9_takesBooking_19 (by decide) ?_
    refine G_callV (pc := 21) (As := [.int (58 : Int32)]) (rest := []) h.1 h.2.2.1 lk_X9_187 lN143 (eM143 _) rfl rfl (c_X9_takes x.1.2.1 y hy (58 : Int32) M3) rfl rfl (Nat.le_of_ble_eq_true rfl) ⟨rfl, rfl, Nat.le_of_ble_eq_true rfl, Nat.le_of_ble_eq_true rfl⟩ dX9_takesBooking_21 (fun r5 M4 => ?_)
    refine G_if_eq (pc := 24) (tgt := 35) h.1 dX9_takesBooking_24 (by decide) ?_ ?_
    · refine G_iconst (pc := 35) (v := (0)) h.1 dX9_takesBooking_35 (by decide) ?_
      exact G_ret (pc := 36) h rfl dX9_takesBooking_36
    · refine G_aload_n (pc := 27) h.1 dX9_takesBooking_27 rfl 0 rfl ?_
      refine G_iconst (pc := 28) (v := (1)) h.1 dX9_takesBooking_28 (by decide) ?_
      refine G_callV (pc := 29) (As := [.int (1 : Int32)]) (rest := []) h.1 h.2.2.1 lk_X9_181 lN143 (eM143 _) rfl rfl (c_X9_takesNumber x.1.2.1 y hy (1 : Int32) M4) rfl rfl (Nat.le_of_ble_eq_true rfl) ⟨rfl, rfl, Nat.le_of_ble_eq_true rfl, Nat.le_of_ble_eq_true rfl⟩ dX9_takesBooking_29 (fun r7 M6 => ?_)
      refine G_if_ne (pc := 32) (tgt := 37) h.1 dX9_takesBooking_32 (by decide) ?_ ?_
      · refine G_aload_n (pc := 37) h.1 dX9_takesBooking_37 rfl 0 rfl ?_
        refine G_aload_n (pc := 38) h.1 dX9_takesBooking_38 rfl 0 rfl ?_
        refine G_get (pc := 39) (v := .int (M6 143 21)) h.1 fl_X9_178 lN143 (eM143 _) rfl dX9_takesBooking_39 ?_
        refine G_put (pc := 42) h.1 fp_X9_190 lN143 (fun m => eM143 m) (fun _ => rfl) (fun _ => Nat.le_of_ble_eq_true rfl) rfl rfl dX9_takesBooking_42 (fun M8 => ?_)
        refine G_aload_n (pc := 45) h.1 dX9_takesBooking_45 rfl 0 rfl ?_
        refine G_bipush (pc := 46) (v := (64)) h.1 dX9_takesBooking_46 (by decide) ?_
        refine G_callV (pc := 48) (As := [.int (64 : Int32)]) (rest := []) h.1 h.2.2.1 lk_X9_187 lN143 (eM143 _) rfl rfl (c_X9_takes x.1.2.1 y hy (64 : Int32) M8) rfl rfl (Nat.le_of_ble_eq_true rfl) ⟨rfl, rfl, Nat.le_of_ble_eq_true rfl, Nat.le_of_ble_eq_true rfl⟩ dX9_takesBooking_48 (fun r10 M9 => ?_)
        refine G_if_eq (pc := 51) (tgt := 66) h.1 dX9_takesBooking_51 (by decide) ?_ ?_
        · refine G_iconst (pc := 66) (v := (0)) h.1 dX9_takesBooking_66 (by decide) ?_
          exact G_ret (pc := 67) h rfl dX9_takesBooking_67
        · refine G_aload_n (pc := 54) h.1 dX9_takesBooking_54 rfl 0 rfl ?_
          refine G_iconst (pc := 55) (v := (4)) h.1 dX9_takesBooking_55 (by decide) ?_
          refine G_callV (pc := 56) (As := [.int (4 : Int32)]) (rest := []) h.1 h.2.2.1 lk_X9_181 lN143 (eM143 _) rfl rfl (c_X9_takesNumber x.1.2.1 y hy (4 : Int32) M9) rfl rfl (Nat.le_of_ble_eq_true rfl) ⟨rfl, rfl, Nat.le_of_ble_eq_true rfl, Nat.le_of_ble_eq_true rfl⟩ dX9_takesBooking_56 (fun r12 M11 => ?_)
          refine G_if_eq (pc := 59) (tgt := 66) h.1 dX9_takesBooking_59 (by decide) ?_ ?_
          · refine G_iconst (pc := 66) (v := (0)) h.1 dX9_takesBooking_66 (by decide) ?_
            exact G_ret (pc := 67) h rfl dX9_takesBooking_67
          · refine G_iconst (pc := 62) (v := (1)) h.1 dX9_takesBooking_62 (by decide) ?_
            refine G_goto (pc := 63) (tgt := 67) h.1 dX9_takesBooking_63 (by decide) ?_
            exact G_ret (pc := 67) h rfl dX9_takesBooking_67
      · refine G_iconst (pc := 35) (v := (0)) h.1 dX9_takesBooking_35 (by decide) ?_
        exact G_ret (pc := 36) h rfl dX9_takesBooking_36
  · refine G_iconst (pc := 8) (v := (0)) h.1 dX9_takesBooking_8 (by decide) ?_
    exact G_ret (pc := 9) h rfl dX9_takesBooking_9
theorem dX9_bookingsOfText_0 : decode cX9_bookingsOfText 0 = .ok (.aload_n 0, 1) := by decide +kernel
theorem dX9_bookingsOfText_1 : decode cX9_bookingsOfText 1 = .ok (.iconst 0, 1) := by decide +kernel
theorem dX9_bookingsOfText_2 : decode cX9_bookingsOfText 2 = .ok (.putfield 171, 3) := by decide +kernel
theorem dX9_bookingsOfText_5 : decode cX9_bookingsOfText 5 = .ok (.iconst 0, 1) := by decide +kernel
theorem dX9_bookingsOfText_6 : decode cX9_bookingsOfText 6 = .ok (.istore_n 1, 1) := by decide +kernel
theorem dX9_bookingsOfText_7 : decode cX9_bookingsOfText 7 = .ok (.iconst 1, 1) := by decide +kernel
theorem dX9_bookingsOfText_8 : decode cX9_bookingsOfText 8 = .ok (.istore_n 2, 1) := by decide +kernel
theorem dX9_bookingsOfText_9 : decode cX9_bookingsOfText 9 = .ok (.iload_n 2, 1) := by decide +kernel
theorem dX9_bookingsOfText_10 : decode cX9_bookingsOfText 10 = .ok (.ifCond .eq 49, 3) := by decide +kernel
theorem dX9_bookingsOfText_13 : decode cX9_bookingsOfText 13 = .ok (.aload_n 0, 1) := by decide +kernel
theorem dX9_bookingsOfText_14 : decode cX9_bookingsOfText 14 = .ok (.invokevirtual 193, 3) := by decide +kernel
theorem dX9_bookingsOfText_17 : decode cX9_bookingsOfText 17 = .ok (.ifCond .ne 6, 3) := by decide +kernel
theorem dX9_bookingsOfText_20 : decode cX9_bookingsOfText 20 = .ok (.bipush (-5), 2) := by decide +kernel
theorem dX9_bookingsOfText_22 : decode cX9_bookingsOfText 22 = .ok (.ireturn, 1) := by decide +kernel
theorem dX9_bookingsOfText_23 : decode cX9_bookingsOfText 23 = .ok (.iinc 1 1, 3) := by decide +kernel
theorem dX9_bookingsOfText_26 : decode cX9_bookingsOfText 26 = .ok (.aload_n 0, 1) := by decide +kernel
theorem dX9_bookingsOfText_27 : decode cX9_bookingsOfText 27 = .ok (.getfield 171, 3) := by decide +kernel
theorem dX9_bookingsOfText_30 : decode cX9_bookingsOfText 30 = .ok (.aload_n 0, 1) := by decide +kernel
theorem dX9_bookingsOfText_31 : decode cX9_bookingsOfText 31 = .ok (.getfield 168, 3) := by decide +kernel
theorem dX9_bookingsOfText_34 : decode cX9_bookingsOfText 34 = .ok (.if_icmp .ge 7, 3) := by decide +kernel
theorem dX9_bookingsOfText_37 : decode cX9_bookingsOfText 37 = .ok (.iconst 1, 1) := by decide +kernel
theorem dX9_bookingsOfText_38 : decode cX9_bookingsOfText 38 = .ok (.goto 4, 3) := by decide +kernel
theorem dX9_bookingsOfText_41 : decode cX9_bookingsOfText 41 = .ok (.iconst 0, 1) := by decide +kernel
theorem dX9_bookingsOfText_42 : decode cX9_bookingsOfText 42 = .ok (.istore_n 2, 1) := by decide +kernel
theorem dX9_bookingsOfText_43 : decode cX9_bookingsOfText 43 = .ok (.iload_n 2, 1) := by decide +kernel
theorem dX9_bookingsOfText_44 : decode cX9_bookingsOfText 44 = .ok (.ifCond .eq (-35), 3) := by decide +kernel
theorem dX9_bookingsOfText_47 : decode cX9_bookingsOfText 47 = .ok (.aload_n 0, 1) := by decide +kernel
theorem dX9_bookingsOfText_48 : decode cX9_bookingsOfText 48 = .ok (.bipush 44, 2) := by decide +kernel
theorem dX9_bookingsOfText_50 : decode cX9_bookingsOfText 50 = .ok (.invokevirtual 187, 3) := by decide +kernel
theorem dX9_bookingsOfText_53 : decode cX9_bookingsOfText 53 = .ok (.ifCond .ne (-44), 3) := by decide +kernel
theorem dX9_bookingsOfText_56 : decode cX9_bookingsOfText 56 = .ok (.bipush (-5), 2) := by decide +kernel
theorem dX9_bookingsOfText_58 : decode cX9_bookingsOfText 58 = .ok (.ireturn, 1) := by decide +kernel
theorem dX9_bookingsOfText_59 : decode cX9_bookingsOfText 59 = .ok (.iload_n 1, 1) := by decide +kernel
theorem dX9_bookingsOfText_60 : decode cX9_bookingsOfText 60 = .ok (.ireturn, 1) := by decide +kernel
abbrev rX9_bookingsOfText : Room := { frames := 4, cells := 0, slots := 0, locals := 84 }
set_option maxRecDepth 20000 in
theorem gd_X9_bookingsOfText_B42 {x : Cx} {y : Cy} (hy : Inj y) (h : OkM x y cX9_bookingsOfText RX9 3 (some .int) rX9_bookingsOfText) (kx1 : Int32 → Mem → Ans) (kb : Int32 → Int32 → Mem → Ans) (a1 : Int32) (s0 : Int32) (hx1 : ∀ (b1 : Int32), ∀ M0 : Mem, G x y 59 [(1, .int b1)] [] M0 (kx1 b1 M0)) (hb : ∀ (b1 b2 : Int32), ∀ M0 : Mem, G x y 9 [(0, .ref (y.2.1 143)), (1, .int b1), (2, .int b2)] [] M0 (kb b1 b2 M0)) (M : Mem) : G x y 42 [(0, .ref (y.2.1 143)), (1, .int a1)] [.int s0] M (d_X9_bookingsOfText_B42 kx1 kb a1 s0 M) := by
  unfold d_X9_bookingsOfText_B42
  refine G_istore_n (pc := 42) h.1 h.2.1 [(2, .int s0), (0, .ref (y.2.1 143)), (1, .int a1)] dX9_bookingsOfText_42 rfl (by decide) rfl ?_
  refine G_iload_n (pc := 43) h.1 dX9_bookingsOfText_43 rfl 0 rfl ?_
  refine G_if_eq (pc := 44) (tgt := 9) h.1 dX9_bookingsOfText_44 (by decide) ?_ ?_
  · exact G_sub [1, 2, 0] rfl (hb a1 s0 M)
  · refine G_aload_n (pc := 47) h.1 dX9_bookingsOfText_47 rfl 1 rfl ?_
    refine G_bipush (pc := 48) (v := (44)) h.1 dX9_bookingsOfText_48 (by decide) ?_
    refine G_callV (pc := 50) (As := [.int (44 : Int32)]) (rest := []) h.1 h.2.2.1 lk_X9_187 lN143 (eM143 _) rfl rfl (c_X9_takes x.1.2.1 y hy (44 : Int32) M) rfl rfl (Nat.le_of_ble_eq_true rfl) ⟨rfl, rfl, Nat.le_of_ble_eq_true rfl, Nat.le_of_ble_eq_true rfl⟩ dX9_bookingsOfText_50 (fun r6 M5 => ?_)
    refine G_if_ne (pc := 53) (tgt := 9) h.1 dX9_bookingsOfText_53 (by decide) ?_ ?_
    · exact G_sub [1, 2, 0] rfl (hb a1 s0 M5)
    · refine G_bipush (pc := 56) (v := (-5)) h.1 dX9_bookingsOfText_56 (by decide) ?_
      exact G_ret (pc := 58) h rfl dX9_bookingsOfText_58
set_option maxRecDepth 20000 in
theorem gd_X9_bookingsOfText_L9_body {x : Cx} {y : Cy} (hy : Inj y) (h : OkM x y cX9_bookingsOfText RX9 3 (some .int) rX9_bookingsOfText) (kx1 : Int32 → Mem → Ans) (hx1 : ∀ (b1 : Int32), ∀ M0 : Mem, G x y 59 [(1, .int b1)] [] M0 (kx1 b1 M0)) (kb : Int32 → Int32 → Mem → Ans) (hb : ∀ (b1 b2 : Int32), ∀ M0 : Mem, G x y 9 [(0, .ref (y.2.1 143)), (1, .int b1), (2, .int b2)] [] M0 (kb b1 b2 M0)) (a1 : Int32) (a2 : Int32) (M : Mem) : G x y 9 [(0, .ref (y.2.1 143)), (1, .int a1), (2, .int a2)] [] M (d_X9_bookingsOfText_L9_body kx1 kb a1 a2 M) := by
  unfold d_X9_bookingsOfText_L9_body
  refine G_iload_n (pc := 9) h.1 dX9_bookingsOfText_9 rfl 2 rfl ?_
  refine G_if_eq (pc := 10) (tgt := 59) h.1 dX9_bookingsOfText_10 (by decide) ?_ ?_
  · exact G_sub [1] rfl (hx1 a1 M)
  · refine G_aload_n (pc := 13) h.1 dX9_bookingsOfText_13 rfl 0 rfl ?_
    refine G_callV (pc := 14) (As := []) (rest := []) h.1 h.2.2.1 lk_X9_193 lN143 (eM143 _) rfl rfl (c_X9_takesBooking x.1.2.1 y hy M) rfl rfl (Nat.le_of_ble_eq_true rfl) ⟨rfl, rfl, Nat.le_of_ble_eq_true rfl, Nat.le_of_ble_eq_true rfl⟩ dX9_bookingsOfText_14 (fun r3 M2 => ?_)
    refine G_if_ne (pc := 17) (tgt := 23) h.1 dX9_bookingsOfText_17 (by decide) ?_ ?_
    · refine G_iinc (pc := 23) (v := a1 + (1)) h.1 h.2.1 (fun v4 => [(1, .int v4), (0, .ref (y.2.1 143)), (2, .int a2)]) dX9_bookingsOfText_23 (by decide) 1 rfl rfl (fun _ => rfl) (fun v4 => ?_)
      refine G_aload_n (pc := 26) h.1 dX9_bookingsOfText_26 rfl 1 rfl ?_
      refine G_get (pc := 27) (v := .int (M2 143 20)) h.1 fl_X9_171 lN143 (eM143 _) rfl dX9_bookingsOfText_27 ?_
      refine G_aload_n (pc := 30) h.1 dX9_bookingsOfText_30 rfl 1 rfl ?_
      refine G_get (pc := 31) (v := .int (M2 143 18)) h.1 fl_X9_168 lN143 (eM143 _) rfl dX9_bookingsOfText_31 ?_
      refine G_icmp_ge (pc := 34) (tgt := 41) h.1 dX9_bookingsOfText_34 (by decide) ?_ ?_
      · refine G_iconst (pc := 41) (v := (0)) h.1 dX9_bookingsOfText_41 (by decide) ?_
        exact G_sub [1, 0] rfl (gd_X9_bookingsOfText_B42 hy h kx1 kb v4 (0 : Int32) hx1 hb M2)
      · refine G_iconst (pc := 37) (v := (1)) h.1 dX9_bookingsOfText_37 (by decide) ?_
        refine G_goto (pc := 38) (tgt := 42) h.1 dX9_bookingsOfText_38 (by decide) ?_
        exact G_sub [1, 0] rfl (gd_X9_bookingsOfText_B42 hy h kx1 kb v4 (1 : Int32) hx1 hb M2)
    · refine G_bipush (pc := 20) (v := (-5)) h.1 dX9_bookingsOfText_20 (by decide) ?_
      exact G_ret (pc := 22) h rfl dX9_bookingsOfText_22
set_option maxRecDepth 20000 in
theorem gd_X9_bookingsOfText_L9 {x : Cx} {y : Cy} (hy : Inj y) (h : OkM x y cX9_bookingsOfText RX9 3 (some .int) rX9_bookingsOfText) (kx1 : Int32 → Mem → Ans) (hx1 : ∀ (b1 : Int32), ∀ M0 : Mem, G x y 59 [(1, .int b1)] [] M0 (kx1 b1 M0)) : ∀ (n : Nat) (a1 : Int32) (a2 : Int32) (M : Mem), G x y 9 [(0, .ref (y.2.1 143)), (1, .int a1), (2, .int a2)] [] M (d_X9_bookingsOfText_L9 kx1 n a1 a2 M) := by
  intro n
  induction n with
  | zero => intro a1 a2 M; exact G_none
  | succ n ih => intro a1 a2 M; exact gd_X9_bookingsOfText_L9_body hy h kx1 hx1 _ ih a1 a2 M
set_option maxRecDepth 20000 in
theorem c_X9_bookingsOfText (l : Launch) (y : Cy) (hy : Inj y) (M : Mem) : CT l y yX9_bookingsOfText cX9_bookingsOfText 3 (some .int) rX9_bookingsOfText [.ref (y.2.1 143)] M (d_X9_bookingsOfText M) := by
  refine CT_of (by decide) hy (Nat.le_of_ble_eq_true rfl) (fun x hxl h => ?_)
  show G x y 0 [(0, .ref (y.2.1 143))] [] M _
  unfold d_X9_bookingsOfText
  refine G_aload_n (pc := 0) h.1 dX9_bookingsOfText_0 rfl 0 rfl ?_
  refine G_iconst (pc := 1) (v := (0)) h.1 dX9_bookingsOfText_1 (by decide) ?_
  refine G_put (pc := 2) h.1 fp_X9_171 lN143 (fun m => eM143 m) (fun _ => rfl) (fun _ => Nat.le_of_ble_eq_true rfl) rfl rfl dX9_bookingsOfText_2 (fun M1 => ?_)
  refine G_iconst (pc := 5) (v := (0)) h.1 dX9_bookingsOfText_5 (by decide) ?_
  refine G_istore_n (pc := 6) h.1 h.2.1 [(1, .int (0 : Int32)), (0, .ref (y.2.1 143))] dX9_bookingsOfText_6 rfl (by decide) rfl ?_
  refine G_iconst (pc := 7) (v := (1)) h.1 dX9_bookingsOfText_7 (by decide) ?_
  refine G_istore_n (pc := 8) h.1 h.2.1 [(2, .int (1 : Int32)), (1, .int (0 : Int32)), (0, .ref (y.2.1 143))] dX9_bookingsOfText_8 rfl (by decide) rfl ?_
  refine G_sub [2, 1, 0] rfl (gd_X9_bookingsOfText_L9 hy h _ (fun v7 M8 => ?_) fuelN (0 : Int32) (1 : Int32) M1)
  refine G_iload_n (pc := 59) h.1 dX9_bookingsOfText_59 rfl 0 rfl ?_
  exact G_ret (pc := 60) h rfl dX9_bookingsOfText_60
theorem dX9_trades_0 : decode cX9_trades 0 = .ok (.iconst 0, 1) := by decide +kernel
theorem dX9_trades_1 : decode cX9_trades 1 = .ok (.istore_n 1, 1) := by decide +kernel
theorem dX9_trades_2 : decode cX9_trades 2 = .ok (.iload_n 1, 1) := by decide +kernel
theorem dX9_trades_3 : decode cX9_trades 3 = .ok (.sipush 366, 3) := by decide +kernel
theorem dX9_trades_6 : decode cX9_trades 6 = .ok (.if_icmp .ge 35, 3) := by decide +kernel
theorem dX9_trades_9 : decode cX9_trades 9 = .ok (.aload_n 0, 1) := by decide +kernel
theorem dX9_trades_10 : decode cX9_trades 10 = .ok (.getfield 7, 3) := by decide +kernel
theorem dX9_trades_13 : decode cX9_trades 13 = .ok (.iload_n 1, 1) := by decide +kernel
theorem dX9_trades_14 : decode cX9_trades 14 = .ok (.iaload, 1) := by decide +kernel
theorem dX9_trades_15 : decode cX9_trades 15 = .ok (.istore_n 2, 1) := by decide +kernel
theorem dX9_trades_16 : decode cX9_trades 16 = .ok (.aload_n 0, 1) := by decide +kernel
theorem dX9_trades_17 : decode cX9_trades 17 = .ok (.getfield 7, 3) := by decide +kernel
theorem dX9_trades_20 : decode cX9_trades 20 = .ok (.iload_n 1, 1) := by decide +kernel
theorem dX9_trades_21 : decode cX9_trades 21 = .ok (.aload_n 0, 1) := by decide +kernel
theorem dX9_trades_22 : decode cX9_trades 22 = .ok (.getfield 19, 3) := by decide +kernel
theorem dX9_trades_25 : decode cX9_trades 25 = .ok (.iload_n 1, 1) := by decide +kernel
theorem dX9_trades_26 : decode cX9_trades 26 = .ok (.iaload, 1) := by decide +kernel
theorem dX9_trades_27 : decode cX9_trades 27 = .ok (.iastore, 1) := by decide +kernel
theorem dX9_trades_28 : decode cX9_trades 28 = .ok (.aload_n 0, 1) := by decide +kernel
theorem dX9_trades_29 : decode cX9_trades 29 = .ok (.getfield 19, 3) := by decide +kernel
theorem dX9_trades_32 : decode cX9_trades 32 = .ok (.iload_n 1, 1) := by decide +kernel
theorem dX9_trades_33 : decode cX9_trades 33 = .ok (.iload_n 2, 1) := by decide +kernel
theorem dX9_trades_34 : decode cX9_trades 34 = .ok (.iastore, 1) := by decide +kernel
theorem dX9_trades_35 : decode cX9_trades 35 = .ok (.iinc 1 1, 3) := by decide +kernel
theorem dX9_trades_38 : decode cX9_trades 38 = .ok (.goto (-36), 3) := by decide +kernel
theorem dX9_trades_41 : decode cX9_trades 41 = .ok (.return_, 1) := by decide +kernel
abbrev rX9_trades : Room := { frames := 0, cells := 0, slots := 0, locals := 0 }
set_option maxRecDepth 20000 in
theorem gd_X9_trades_L2_body {x : Cx} {y : Cy} (hy : Inj y) (h : OkM x y cX9_trades RX9 3 none rX9_trades) (kx1 : Mem → Ans) (hx1 : ∀ M0 : Mem, G x y 41 [] [] M0 (kx1 M0)) (kb : Int32 → Mem → Ans) (hb : ∀ (b1 : Int32), ∀ M0 : Mem, G x y 2 [(0, .ref (y.2.1 143)), (1, .int b1)] [] M0 (kb b1 M0)) (a1 : Int32) (M : Mem) : G x y 2 [(0, .ref (y.2.1 143)), (1, .int a1)] [] M (d_X9_trades_L2_body kx1 kb a1 M) := by
  unfold d_X9_trades_L2_body
  refine G_iload_n (pc := 2) h.1 dX9_trades_2 rfl 1 rfl ?_
  refine G_sipush (pc := 3) (v := (366)) h.1 dX9_trades_3 (by decide) ?_
  refine G_icmp_ge (pc := 6) (tgt := 41) h.1 dX9_trades_6 (by decide) ?_ ?_
  · exact G_sub [] rfl (hx1 M)
  · refine G_aload_n (pc := 9) h.1 dX9_trades_9 rfl 0 rfl ?_
    refine G_get (pc := 10) (v := .ref (y.2.1 144)) h.1 fl_X9_7 lN143 (eM143 _) rfl dX9_trades_10 ?_
    refine G_iload_n (pc := 13) h.1 dX9_trades_13 rfl 1 rfl ?_
    refine G_iald (pc := 14) h.1 lN144 (eM144 _) dX9_trades_14 ?_
    refine G_top (fun v1 => ?_)
    refine G_istore_n (pc := 15) h.1 h.2.1 [(2, .int v1), (0, .ref (y.2.1 143)), (1, .int a1)] dX9_trades_15 rfl (by decide) rfl ?_
    refine G_aload_n (pc := 16) h.1 dX9_trades_16 rfl 1 rfl ?_
    refine G_get (pc := 17) (v := .ref (y.2.1 144)) h.1 fl_X9_7 lN143 (eM143 _) rfl dX9_trades_17 ?_
    refine G_iload_n (pc := 20) h.1 dX9_trades_20 rfl 2 rfl ?_
    refine G_aload_n (pc := 21) h.1 dX9_trades_21 rfl 1 rfl ?_
    refine G_get (pc := 22) (v := .ref (y.2.1 147)) h.1 fl_X9_19 lN143 (eM143 _) rfl dX9_trades_22 ?_
    refine G_iload_n (pc := 25) h.1 dX9_trades_25 rfl 2 rfl ?_
    refine G_iald (pc := 26) h.1 lN147 (eM147 _) dX9_trades_26 ?_
    refine G_iast (pc := 27) h.1 lN144 (fun m => eM144 m) dX9_trades_27 (fun M2 => ?_)
    refine G_aload_n (pc := 28) h.1 dX9_trades_28 rfl 1 rfl ?_
    refine G_get (pc := 29) (v := .ref (y.2.1 147)) h.1 fl_X9_19 lN143 (eM143 _) rfl dX9_trades_29 ?_
    refine G_iload_n (pc := 32) h.1 dX9_trades_32 rfl 2 rfl ?_
    refine G_iload_n (pc := 33) h.1 dX9_trades_33 rfl 0 rfl ?_
    refine G_iast (pc := 34) h.1 lN147 (fun m => eM147 m) dX9_trades_34 (fun M3 => ?_)
    refine G_iinc (pc := 35) (v := a1 + (1)) h.1 h.2.1 (fun v4 => [(1, .int v4), (2, .int v1), (0, .ref (y.2.1 143))]) dX9_trades_35 (by decide) 2 rfl rfl (fun _ => rfl) (fun v4 => ?_)
    refine G_goto (pc := 38) (tgt := 2) h.1 dX9_trades_38 (by decide) ?_
    exact G_sub [2, 0] rfl (hb v4 M3)
set_option maxRecDepth 20000 in
theorem gd_X9_trades_L2 {x : Cx} {y : Cy} (hy : Inj y) (h : OkM x y cX9_trades RX9 3 none rX9_trades) (kx1 : Mem → Ans) (hx1 : ∀ M0 : Mem, G x y 41 [] [] M0 (kx1 M0)) : ∀ (n : Nat) (a1 : Int32) (M : Mem), G x y 2 [(0, .ref (y.2.1 143)), (1, .int a1)] [] M (d_X9_trades_L2 kx1 n a1 M) := by
  intro n
  induction n with
  | zero => intro a1 M; exact G_none
  | succ n ih => intro a1 M; exact gd_X9_trades_L2_body hy h kx1 hx1 _ ih a1 M
set_option maxRecDepth 20000 in
theorem c_X9_trades (l : Launch) (y : Cy) (hy : Inj y) (M : Mem) : CT l y yX9_trades cX9_trades 3 none rX9_trades [.ref (y.2.1 143)] M (d_X9_trades M) := by
  refine CT_of (by decide) hy (Nat.le_of_ble_eq_true rfl) (fun x hxl h => ?_)
  show G x y 0 [(0, .ref (y.2.1 143))] [] M _
  unfold d_X9_trades
  refine G_iconst (pc := 0) (v := (0)) h.1 dX9_trades_0 (by decide) ?_
  refine G_istore_n (pc := 1) h.1 h.2.1 [(1, .int (0 : Int32)), (0, .ref (y.2.1 143))] dX9_trades_1 rfl (by decide) rfl ?_
  refine G_sub [1, 0] rfl (gd_X9_trades_L2 hy h _ (fun M5 => ?_) fuelN (0 : Int32) M)
  exact G_vret (pc := 41) h dX9_trades_41
theorem dX9_bookAll_0 : decode cX9_bookAll 0 = .ok (.aload_n 0, 1) := by decide +kernel
theorem dX9_bookAll_1 : decode cX9_bookAll 1 = .ok (.invokevirtual 196, 3) := by decide +kernel
theorem dX9_bookAll_4 : decode cX9_bookAll 4 = .ok (.istore_n 1, 1) := by decide +kernel
theorem dX9_bookAll_5 : decode cX9_bookAll 5 = .ok (.iload_n 1, 1) := by decide +kernel
theorem dX9_bookAll_6 : decode cX9_bookAll 6 = .ok (.bipush (-5), 2) := by decide +kernel
theorem dX9_bookAll_8 : decode cX9_bookAll 8 = .ok (.if_icmp .ne 11, 3) := by decide +kernel
theorem dX9_bookAll_11 : decode cX9_bookAll 11 = .ok (.bipush (-100), 2) := by decide +kernel
theorem dX9_bookAll_13 : decode cX9_bookAll 13 = .ok (.aload_n 0, 1) := by decide +kernel
theorem dX9_bookAll_14 : decode cX9_bookAll 14 = .ok (.getfield 171, 3) := by decide +kernel
theorem dX9_bookAll_17 : decode cX9_bookAll 17 = .ok (.isub, 1) := by decide +kernel
theorem dX9_bookAll_18 : decode cX9_bookAll 18 = .ok (.ireturn, 1) := by decide +kernel
theorem dX9_bookAll_19 : decode cX9_bookAll 19 = .ok (.aload_n 0, 1) := by decide +kernel
theorem dX9_bookAll_20 : decode cX9_bookAll 20 = .ok (.invokevirtual 156, 3) := by decide +kernel
theorem dX9_bookAll_23 : decode cX9_bookAll 23 = .ok (.aload_n 0, 1) := by decide +kernel
theorem dX9_bookAll_24 : decode cX9_bookAll 24 = .ok (.iconst 0, 1) := by decide +kernel
theorem dX9_bookAll_25 : decode cX9_bookAll 25 = .ok (.putfield 171, 3) := by decide +kernel
theorem dX9_bookAll_28 : decode cX9_bookAll 28 = .ok (.iconst 0, 1) := by decide +kernel
theorem dX9_bookAll_29 : decode cX9_bookAll 29 = .ok (.istore_n 2, 1) := by decide +kernel
theorem dX9_bookAll_30 : decode cX9_bookAll 30 = .ok (.iload_n 2, 1) := by decide +kernel
theorem dX9_bookAll_31 : decode cX9_bookAll 31 = .ok (.iload_n 1, 1) := by decide +kernel
theorem dX9_bookAll_32 : decode cX9_bookAll 32 = .ok (.if_icmp .ge 68, 3) := by decide +kernel
theorem dX9_bookAll_35 : decode cX9_bookAll 35 = .ok (.aload_n 0, 1) := by decide +kernel
theorem dX9_bookAll_36 : decode cX9_bookAll 36 = .ok (.invokevirtual 193, 3) := by decide +kernel
theorem dX9_bookAll_39 : decode cX9_bookAll 39 = .ok (.pop, 1) := by decide +kernel
theorem dX9_bookAll_40 : decode cX9_bookAll 40 = .ok (.aload_n 0, 1) := by decide +kernel
theorem dX9_bookAll_41 : decode cX9_bookAll 41 = .ok (.dup, 1) := by decide +kernel
theorem dX9_bookAll_42 : decode cX9_bookAll 42 = .ok (.getfield 171, 3) := by decide +kernel
theorem dX9_bookAll_45 : decode cX9_bookAll 45 = .ok (.iconst 1, 1) := by decide +kernel
theorem dX9_bookAll_46 : decode cX9_bookAll 46 = .ok (.iadd, 1) := by decide +kernel
theorem dX9_bookAll_47 : decode cX9_bookAll 47 = .ok (.putfield 171, 3) := by decide +kernel
theorem dX9_bookAll_50 : decode cX9_bookAll 50 = .ok (.aload_n 0, 1) := by decide +kernel
theorem dX9_bookAll_51 : decode cX9_bookAll 51 = .ok (.aload_n 0, 1) := by decide +kernel
theorem dX9_bookAll_52 : decode cX9_bookAll 52 = .ok (.getfield 184, 3) := by decide +kernel
theorem dX9_bookAll_55 : decode cX9_bookAll 55 = .ok (.aload_n 0, 1) := by decide +kernel
theorem dX9_bookAll_56 : decode cX9_bookAll 56 = .ok (.getfield 190, 3) := by decide +kernel
theorem dX9_bookAll_59 : decode cX9_bookAll 59 = .ok (.aload_n 0, 1) := by decide +kernel
theorem dX9_bookAll_60 : decode cX9_bookAll 60 = .ok (.getfield 178, 3) := by decide +kernel
theorem dX9_bookAll_63 : decode cX9_bookAll 63 = .ok (.invokevirtual 127, 3) := by decide +kernel
theorem dX9_bookAll_66 : decode cX9_bookAll 66 = .ok (.istore_n 3, 1) := by decide +kernel
theorem dX9_bookAll_67 : decode cX9_bookAll 67 = .ok (.iload_n 3, 1) := by decide +kernel
theorem dX9_bookAll_68 : decode cX9_bookAll 68 = .ok (.ifCond .eq 9, 3) := by decide +kernel
theorem dX9_bookAll_71 : decode cX9_bookAll 71 = .ok (.aload_n 0, 1) := by decide +kernel
theorem dX9_bookAll_72 : decode cX9_bookAll 72 = .ok (.invokevirtual 159, 3) := by decide +kernel
theorem dX9_bookAll_75 : decode cX9_bookAll 75 = .ok (.iload_n 3, 1) := by decide +kernel
theorem dX9_bookAll_76 : decode cX9_bookAll 76 = .ok (.ireturn, 1) := by decide +kernel
theorem dX9_bookAll_77 : decode cX9_bookAll 77 = .ok (.aload_n 0, 1) := by decide +kernel
theorem dX9_bookAll_78 : decode cX9_bookAll 78 = .ok (.aload_n 0, 1) := by decide +kernel
theorem dX9_bookAll_79 : decode cX9_bookAll 79 = .ok (.getfield 184, 3) := by decide +kernel
theorem dX9_bookAll_82 : decode cX9_bookAll 82 = .ok (.aload_n 0, 1) := by decide +kernel
theorem dX9_bookAll_83 : decode cX9_bookAll 83 = .ok (.getfield 190, 3) := by decide +kernel
theorem dX9_bookAll_86 : decode cX9_bookAll 86 = .ok (.aload_n 0, 1) := by decide +kernel
theorem dX9_bookAll_87 : decode cX9_bookAll 87 = .ok (.getfield 178, 3) := by decide +kernel
theorem dX9_bookAll_90 : decode cX9_bookAll 90 = .ok (.invokevirtual 131, 3) := by decide +kernel
theorem dX9_bookAll_93 : decode cX9_bookAll 93 = .ok (.pop, 1) := by decide +kernel
theorem dX9_bookAll_94 : decode cX9_bookAll 94 = .ok (.iinc 2 1, 3) := by decide +kernel
theorem dX9_bookAll_97 : decode cX9_bookAll 97 = .ok (.goto (-67), 3) := by decide +kernel
theorem dX9_bookAll_100 : decode cX9_bookAll 100 = .ok (.aload_n 0, 1) := by decide +kernel
theorem dX9_bookAll_101 : decode cX9_bookAll 101 = .ok (.invokevirtual 199, 3) := by decide +kernel
theorem dX9_bookAll_104 : decode cX9_bookAll 104 = .ok (.aload_n 0, 1) := by decide +kernel
theorem dX9_bookAll_105 : decode cX9_bookAll 105 = .ok (.invokevirtual 107, 3) := by decide +kernel
theorem dX9_bookAll_108 : decode cX9_bookAll 108 = .ok (.aload_n 0, 1) := by decide +kernel
theorem dX9_bookAll_109 : decode cX9_bookAll 109 = .ok (.invokevirtual 199, 3) := by decide +kernel
theorem dX9_bookAll_112 : decode cX9_bookAll 112 = .ok (.iload_n 1, 1) := by decide +kernel
theorem dX9_bookAll_113 : decode cX9_bookAll 113 = .ok (.ireturn, 1) := by decide +kernel
abbrev rX9_bookAll : Room := { frames := 6, cells := 0, slots := 0, locals := 141 }
set_option maxRecDepth 20000 in
theorem gd_X9_bookAll_L30_body {x : Cx} {y : Cy} (hy : Inj y) (h : OkM x y cX9_bookAll RX9 4 (some .int) rX9_bookAll) (a1 : Int32) (kx1 : Mem → Ans) (hx1 : ∀ M0 : Mem, G x y 100 [(0, .ref (y.2.1 143)), (1, .int a1)] [] M0 (kx1 M0)) (kb : Int32 → Mem → Ans) (hb : ∀ (b2 : Int32), ∀ M0 : Mem, G x y 30 [(0, .ref (y.2.1 143)), (1, .int a1), (2, .int b2)] [] M0 (kb b2 M0)) (a2 : Int32) (M : Mem) : G x y 30 [(0, .ref (y.2.1 143)), (1, .int a1), (2, .int a2)] [] M (d_X9_bookAll_L30_body a1 kx1 kb a2 M) := by
  unfold d_X9_bookAll_L30_body
  refine G_iload_n (pc := 30) h.1 dX9_bookAll_30 rfl 2 rfl ?_
  refine G_iload_n (pc := 31) h.1 dX9_bookAll_31 rfl 1 rfl ?_
  refine G_icmp_ge (pc := 32) (tgt := 100) h.1 dX9_bookAll_32 (by decide) ?_ ?_
  · exact G_sub [0, 1] rfl (hx1 M)
  · refine G_aload_n (pc := 35) h.1 dX9_bookAll_35 rfl 0 rfl ?_
    refine G_callV (pc := 36) (As := []) (rest := []) h.1 h.2.2.1 lk_X9_193 lN143 (eM143 _) rfl rfl (c_X9_takesBooking x.1.2.1 y hy M) rfl rfl (Nat.le_of_ble_eq_true rfl) ⟨rfl, rfl, Nat.le_of_ble_eq_true rfl, Nat.le_of_ble_eq_true rfl⟩ dX9_bookAll_36 (fun r7 M6 => ?_)
    refine G_pop (pc := 39) h.1 dX9_bookAll_39 rfl ?_
    refine G_aload_n (pc := 40) h.1 dX9_bookAll_40 rfl 0 rfl ?_
    refine G_dup (pc := 41) h.1 dX9_bookAll_41 rfl ?_
    refine G_get (pc := 42) (v := .int (M6 143 20)) h.1 fl_X9_171 lN143 (eM143 _) rfl dX9_bookAll_42 ?_
    refine G_iconst (pc := 45) (v := (1)) h.1 dX9_bookAll_45 (by decide) ?_
    refine G_iadd (pc := 46) h.1 dX9_bookAll_46 ?_
    refine G_put (pc := 47) h.1 fp_X9_171 lN143 (fun m => eM143 m) (fun _ => rfl) (fun _ => Nat.le_of_ble_eq_true rfl) rfl rfl dX9_bookAll_47 (fun M8 => ?_)
    refine G_aload_n (pc := 50) h.1 dX9_bookAll_50 rfl 0 rfl ?_
    refine G_aload_n (pc := 51) h.1 dX9_bookAll_51 rfl 0 rfl ?_
    refine G_get (pc := 52) (v := .int (M8 143 22)) h.1 fl_X9_184 lN143 (eM143 _) rfl dX9_bookAll_52 ?_
    refine G_aload_n (pc := 55) h.1 dX9_bookAll_55 rfl 0 rfl ?_
    refine G_get (pc := 56) (v := .int (M8 143 23)) h.1 fl_X9_190 lN143 (eM143 _) rfl dX9_bookAll_56 ?_
    refine G_aload_n (pc := 59) h.1 dX9_bookAll_59 rfl 0 rfl ?_
    refine G_get (pc := 60) (v := .int (M8 143 21)) h.1 fl_X9_178 lN143 (eM143 _) rfl dX9_bookAll_60 ?_
    refine G_callV (pc := 63) (As := [.int (M8 143 22), .int (M8 143 23), .int (M8 143 21)]) (rest := []) h.1 h.2.2.1 lk_X9_127 lN143 (eM143 _) rfl rfl (c_X9_wrong x.1.2.1 y hy (M8 143 22) (M8 143 23) (M8 143 21) M8) rfl rfl (Nat.le_of_ble_eq_true rfl) ⟨rfl, rfl, Nat.le_of_ble_eq_true rfl, Nat.le_of_ble_eq_true rfl⟩ dX9_bookAll_63 (fun r10 M9 => ?_)
    refine G_istore_n (pc := 66) h.1 h.2.1 [(3, .int r10), (0, .ref (y.2.1 143)), (1, .int a1), (2, .int a2)] dX9_bookAll_66 rfl (by decide) rfl ?_
    refine G_iload_n (pc := 67) h.1 dX9_bookAll_67 rfl 0 rfl ?_
    refine G_if_eq (pc := 68) (tgt := 77) h.1 dX9_bookAll_68 (by decide) ?_ ?_
    · refine G_aload_n (pc := 77) h.1 dX9_bookAll_77 rfl 1 rfl ?_
      refine G_aload_n (pc := 78) h.1 dX9_bookAll_78 rfl 1 rfl ?_
      refine G_get (pc := 79) (v := .int (M9 143 22)) h.1 fl_X9_184 lN143 (eM143 _) rfl dX9_bookAll_79 ?_
      refine G_aload_n (pc := 82) h.1 dX9_bookAll_82 rfl 1 rfl ?_
      refine G_get (pc := 83) (v := .int (M9 143 23)) h.1 fl_X9_190 lN143 (eM143 _) rfl dX9_bookAll_83 ?_
      refine G_aload_n (pc := 86) h.1 dX9_bookAll_86 rfl 1 rfl ?_
      refine G_get (pc := 87) (v := .int (M9 143 21)) h.1 fl_X9_178 lN143 (eM143 _) rfl dX9_bookAll_87 ?_
      refine G_callV (pc := 90) (As := [.int (M9 143 22), .int (M9 143 23), .int (M9 143 21)]) (rest := []) h.1 h.2.2.1 lk_X9_131 lN143 (eM143 _) rfl rfl (c_X9_adds x.1.2.1 y hy (M9 143 22) (M9 143 23) (M9 143 21) M9) rfl rfl (Nat.le_of_ble_eq_true rfl) ⟨rfl, rfl, Nat.le_of_ble_eq_true rfl, Nat.le_of_ble_eq_true rfl⟩ dX9_bookAll_90 (fun r12 M11 => ?_)
      refine G_pop (pc := 93) h.1 dX9_bookAll_93 rfl ?_
      refine G_iinc (pc := 94) (v := a2 + (1)) h.1 h.2.1 (fun v13 => [(2, .int v13), (3, .int r10), (0, .ref (y.2.1 143)), (1, .int a1)]) dX9_bookAll_94 (by decide) 3 rfl rfl (fun _ => rfl) (fun v13 => ?_)
      refine G_goto (pc := 97) (tgt := 30) h.1 dX9_bookAll_97 (by decide) ?_
      exact G_sub [2, 3, 0] rfl (hb v13 M11)
    · refine G_aload_n (pc := 71) h.1 dX9_bookAll_71 rfl 1 rfl ?_
      refine G_callVv (pc := 72) (As := []) (rest := []) h.1 h.2.2.1 lk_X9_159 lN143 (eM143 _) rfl rfl (c_X9_comes x.1.2.1 y hy M9) rfl rfl (Nat.le_of_ble_eq_true rfl) ⟨rfl, rfl, Nat.le_of_ble_eq_true rfl, Nat.le_of_ble_eq_true rfl⟩ dX9_bookAll_72 (fun r15 M14 => ?_)
      refine G_iload_n (pc := 75) h.1 dX9_bookAll_75 rfl 0 rfl ?_
      exact G_ret (pc := 76) h rfl dX9_bookAll_76
set_option maxRecDepth 20000 in
theorem gd_X9_bookAll_L30 {x : Cx} {y : Cy} (hy : Inj y) (h : OkM x y cX9_bookAll RX9 4 (some .int) rX9_bookAll) (a1 : Int32) (kx1 : Mem → Ans) (hx1 : ∀ M0 : Mem, G x y 100 [(0, .ref (y.2.1 143)), (1, .int a1)] [] M0 (kx1 M0)) : ∀ (n : Nat) (a2 : Int32) (M : Mem), G x y 30 [(0, .ref (y.2.1 143)), (1, .int a1), (2, .int a2)] [] M (d_X9_bookAll_L30 a1 kx1 n a2 M) := by
  intro n
  induction n with
  | zero => intro a2 M; exact G_none
  | succ n ih => intro a2 M; exact gd_X9_bookAll_L30_body hy h a1 kx1 hx1 _ ih a2 M
set_option maxRecDepth 20000 in
theorem c_X9_bookAll (l : Launch) (y : Cy) (hy : Inj y) (M : Mem) : CT l y yX9_bookAll cX9_bookAll 4 (some .int) rX9_bookAll [.ref (y.2.1 143)] M (d_X9_bookAll M) := by
  refine CT_of (by decide) hy (Nat.le_of_ble_eq_true rfl) (fun x hxl h => ?_)
  show G x y 0 [(0, .ref (y.2.1 143))] [] M _
  unfold d_X9_bookAll
  refine G_aload_n (pc := 0) h.1 dX9_bookAll_0 rfl 0 rfl ?_
  refine G_callV (pc := 1) (As := []) (rest := []) h.1 h.2.2.1 lk_X9_196 lN143 (eM143 _) rfl rfl (c_X9_bookingsOfText x.1.2.1 y hy M) rfl rfl (Nat.le_of_ble_eq_true rfl) ⟨rfl, rfl, Nat.le_of_ble_eq_true rfl, Nat.le_of_ble_eq_true rfl⟩ dX9_bookAll_1 (fun r2 M1 => ?_)
  refine G_istore_n (pc := 4) h.1 h.2.1 [(1, .int r2), (0, .ref (y.2.1 143))] dX9_bookAll_4 rfl (by decide) rfl ?_
  refine G_iload_n (pc := 5) h.1 dX9_bookAll_5 rfl 0 rfl ?_
  refine G_bipush (pc := 6) (v := (-5)) h.1 dX9_bookAll_6 (by decide) ?_
  refine G_icmp_ne (pc := 8) (tgt := 19) h.1 dX9_bookAll_8 (by decide) ?_ ?_
  · refine G_aload_n (pc := 19) h.1 dX9_bookAll_19 rfl 1 rfl ?_
    refine G_callVv (pc := 20) (As := []) (rest := []) h.1 h.2.2.1 lk_X9_156 lN143 (eM143 _) rfl rfl (c_X9_goes x.1.2.1 y hy M1) rfl rfl (Nat.le_of_ble_eq_true rfl) ⟨rfl, rfl, Nat.le_of_ble_eq_true rfl, Nat.le_of_ble_eq_true rfl⟩ dX9_bookAll_20 (fun r4 M3 => ?_)
    refine G_aload_n (pc := 23) h.1 dX9_bookAll_23 rfl 1 rfl ?_
    refine G_iconst (pc := 24) (v := (0)) h.1 dX9_bookAll_24 (by decide) ?_
    refine G_put (pc := 25) h.1 fp_X9_171 lN143 (fun m => eM143 m) (fun _ => rfl) (fun _ => Nat.le_of_ble_eq_true rfl) rfl rfl dX9_bookAll_25 (fun M5 => ?_)
    refine G_iconst (pc := 28) (v := (0)) h.1 dX9_bookAll_28 (by decide) ?_
    refine G_istore_n (pc := 29) h.1 h.2.1 [(2, .int (0 : Int32)), (1, .int r2), (0, .ref (y.2.1 143))] dX9_bookAll_29 rfl (by decide) rfl ?_
    refine G_sub [2, 1, 0] rfl (gd_X9_bookAll_L30 hy h r2 _ (fun M16 => ?_) fuelN (0 : Int32) M5)
    refine G_aload_n (pc := 100) h.1 dX9_bookAll_100 rfl 0 rfl ?_
    refine G_callVv (pc := 101) (As := []) (rest := []) h.1 h.2.2.1 lk_X9_199 lN143 (eM143 _) rfl rfl (c_X9_trades x.1.2.1 y hy M16) rfl rfl (Nat.le_of_ble_eq_true rfl) ⟨rfl, rfl, Nat.le_of_ble_eq_true rfl, Nat.le_of_ble_eq_true rfl⟩ dX9_bookAll_101 (fun r18 M17 => ?_)
    refine G_aload_n (pc := 104) h.1 dX9_bookAll_104 rfl 0 rfl ?_
    refine G_callVv (pc := 105) (As := []) (rest := []) h.1 h.2.2.1 lk_X9_107 lN143 (eM143 _) rfl rfl (c_X9_record x.1.2.1 y hy M17) rfl rfl (Nat.le_of_ble_eq_true rfl) ⟨rfl, rfl, Nat.le_of_ble_eq_true rfl, Nat.le_of_ble_eq_true rfl⟩ dX9_bookAll_105 (fun r20 M19 => ?_)
    refine G_aload_n (pc := 108) h.1 dX9_bookAll_108 rfl 0 rfl ?_
    refine G_callVv (pc := 109) (As := []) (rest := []) h.1 h.2.2.1 lk_X9_199 lN143 (eM143 _) rfl rfl (c_X9_trades x.1.2.1 y hy M19) rfl rfl (Nat.le_of_ble_eq_true rfl) ⟨rfl, rfl, Nat.le_of_ble_eq_true rfl, Nat.le_of_ble_eq_true rfl⟩ dX9_bookAll_109 (fun r22 M21 => ?_)
    refine G_iload_n (pc := 112) h.1 dX9_bookAll_112 rfl 1 rfl ?_
    exact G_ret (pc := 113) h rfl dX9_bookAll_113
  · refine G_bipush (pc := 11) (v := (-100)) h.1 dX9_bookAll_11 (by decide) ?_
    refine G_aload_n (pc := 13) h.1 dX9_bookAll_13 rfl 1 rfl ?_
    refine G_get (pc := 14) (v := .int (M1 143 20)) h.1 fl_X9_171 lN143 (eM143 _) rfl dX9_bookAll_14 ?_
    refine G_isub (pc := 17) h.1 dX9_bookAll_17 ?_
    exact G_ret (pc := 18) h rfl dX9_bookAll_18
theorem dX9_undo_0 : decode cX9_undo 0 = .ok (.aload_n 0, 1) := by decide +kernel
theorem dX9_undo_1 : decode cX9_undo 1 = .ok (.getfield 60, 3) := by decide +kernel
theorem dX9_undo_4 : decode cX9_undo 4 = .ok (.ifCond .ne 6, 3) := by decide +kernel
theorem dX9_undo_7 : decode cX9_undo 7 = .ok (.bipush (-5), 2) := by decide +kernel
theorem dX9_undo_9 : decode cX9_undo 9 = .ok (.ireturn, 1) := by decide +kernel
theorem dX9_undo_10 : decode cX9_undo 10 = .ok (.aload_n 0, 1) := by decide +kernel
theorem dX9_undo_11 : decode cX9_undo 11 = .ok (.dup, 1) := by decide +kernel
theorem dX9_undo_12 : decode cX9_undo 12 = .ok (.getfield 60, 3) := by decide +kernel
theorem dX9_undo_15 : decode cX9_undo 15 = .ok (.iconst 1, 1) := by decide +kernel
theorem dX9_undo_16 : decode cX9_undo 16 = .ok (.isub, 1) := by decide +kernel
theorem dX9_undo_17 : decode cX9_undo 17 = .ok (.putfield 60, 3) := by decide +kernel
theorem dX9_undo_20 : decode cX9_undo 20 = .ok (.iconst 0, 1) := by decide +kernel
theorem dX9_undo_21 : decode cX9_undo 21 = .ok (.istore_n 1, 1) := by decide +kernel
theorem dX9_undo_22 : decode cX9_undo 22 = .ok (.iload_n 1, 1) := by decide +kernel
theorem dX9_undo_23 : decode cX9_undo 23 = .ok (.sipush 366, 3) := by decide +kernel
theorem dX9_undo_26 : decode cX9_undo 26 = .ok (.if_icmp .ge 30, 3) := by decide +kernel
theorem dX9_undo_29 : decode cX9_undo 29 = .ok (.aload_n 0, 1) := by decide +kernel
theorem dX9_undo_30 : decode cX9_undo 30 = .ok (.getfield 7, 3) := by decide +kernel
theorem dX9_undo_33 : decode cX9_undo 33 = .ok (.iload_n 1, 1) := by decide +kernel
theorem dX9_undo_34 : decode cX9_undo 34 = .ok (.aload_n 0, 1) := by decide +kernel
theorem dX9_undo_35 : decode cX9_undo 35 = .ok (.getfield 13, 3) := by decide +kernel
theorem dX9_undo_38 : decode cX9_undo 38 = .ok (.sipush 366, 3) := by decide +kernel
theorem dX9_undo_41 : decode cX9_undo 41 = .ok (.aload_n 0, 1) := by decide +kernel
theorem dX9_undo_42 : decode cX9_undo 42 = .ok (.getfield 60, 3) := by decide +kernel
theorem dX9_undo_45 : decode cX9_undo 45 = .ok (.imul, 1) := by decide +kernel
theorem dX9_undo_46 : decode cX9_undo 46 = .ok (.iload_n 1, 1) := by decide +kernel
theorem dX9_undo_47 : decode cX9_undo 47 = .ok (.iadd, 1) := by decide +kernel
theorem dX9_undo_48 : decode cX9_undo 48 = .ok (.iaload, 1) := by decide +kernel
theorem dX9_undo_49 : decode cX9_undo 49 = .ok (.iastore, 1) := by decide +kernel
theorem dX9_undo_50 : decode cX9_undo 50 = .ok (.iinc 1 1, 3) := by decide +kernel
theorem dX9_undo_53 : decode cX9_undo 53 = .ok (.goto (-31), 3) := by decide +kernel
theorem dX9_undo_56 : decode cX9_undo 56 = .ok (.aload_n 0, 1) := by decide +kernel
theorem dX9_undo_57 : decode cX9_undo 57 = .ok (.getfield 60, 3) := by decide +kernel
theorem dX9_undo_60 : decode cX9_undo 60 = .ok (.ireturn, 1) := by decide +kernel
abbrev rX9_undo : Room := { frames := 0, cells := 0, slots := 0, locals := 0 }
set_option maxRecDepth 20000 in
theorem gd_X9_undo_L22_body {x : Cx} {y : Cy} (hy : Inj y) (h : OkM x y cX9_undo RX9 2 (some .int) rX9_undo) (kx1 : Mem → Ans) (hx1 : ∀ M0 : Mem, G x y 56 [(0, .ref (y.2.1 143))] [] M0 (kx1 M0)) (kb : Int32 → Mem → Ans) (hb : ∀ (b1 : Int32), ∀ M0 : Mem, G x y 22 [(0, .ref (y.2.1 143)), (1, .int b1)] [] M0 (kb b1 M0)) (a1 : Int32) (M : Mem) : G x y 22 [(0, .ref (y.2.1 143)), (1, .int a1)] [] M (d_X9_undo_L22_body kx1 kb a1 M) := by
  unfold d_X9_undo_L22_body
  refine G_iload_n (pc := 22) h.1 dX9_undo_22 rfl 1 rfl ?_
  refine G_sipush (pc := 23) (v := (366)) h.1 dX9_undo_23 (by decide) ?_
  refine G_icmp_ge (pc := 26) (tgt := 56) h.1 dX9_undo_26 (by decide) ?_ ?_
  · exact G_sub [0] rfl (hx1 M)
  · refine G_aload_n (pc := 29) h.1 dX9_undo_29 rfl 0 rfl ?_
    refine G_get (pc := 30) (v := .ref (y.2.1 144)) h.1 fl_X9_7 lN143 (eM143 _) rfl dX9_undo_30 ?_
    refine G_iload_n (pc := 33) h.1 dX9_undo_33 rfl 1 rfl ?_
    refine G_aload_n (pc := 34) h.1 dX9_undo_34 rfl 0 rfl ?_
    refine G_get (pc := 35) (v := .ref (y.2.1 145)) h.1 fl_X9_13 lN143 (eM143 _) rfl dX9_undo_35 ?_
    refine G_sipush (pc := 38) (v := (366)) h.1 dX9_undo_38 (by decide) ?_
    refine G_aload_n (pc := 41) h.1 dX9_undo_41 rfl 0 rfl ?_
    refine G_get (pc := 42) (v := .int (M 143 2)) h.1 fl_X9_60 lN143 (eM143 _) rfl dX9_undo_42 ?_
    refine G_imul (pc := 45) h.1 dX9_undo_45 ?_
    refine G_iload_n (pc := 46) h.1 dX9_undo_46 rfl 1 rfl ?_
    refine G_iadd (pc := 47) h.1 dX9_undo_47 ?_
    refine G_iald (pc := 48) h.1 lN145 (eM145 _) dX9_undo_48 ?_
    refine G_iast (pc := 49) h.1 lN144 (fun m => eM144 m) dX9_undo_49 (fun M2 => ?_)
    refine G_iinc (pc := 50) (v := a1 + (1)) h.1 h.2.1 (fun v3 => [(1, .int v3), (0, .ref (y.2.1 143))]) dX9_undo_50 (by decide) 1 rfl rfl (fun _ => rfl) (fun v3 => ?_)
    refine G_goto (pc := 53) (tgt := 22) h.1 dX9_undo_53 (by decide) ?_
    exact G_sub [1, 0] rfl (hb v3 M2)
set_option maxRecDepth 20000 in
theorem gd_X9_undo_L22 {x : Cx} {y : Cy} (hy : Inj y) (h : OkM x y cX9_undo RX9 2 (some .int) rX9_undo) (kx1 : Mem → Ans) (hx1 : ∀ M0 : Mem, G x y 56 [(0, .ref (y.2.1 143))] [] M0 (kx1 M0)) : ∀ (n : Nat) (a1 : Int32) (M : Mem), G x y 22 [(0, .ref (y.2.1 143)), (1, .int a1)] [] M (d_X9_undo_L22 kx1 n a1 M) := by
  intro n
  induction n with
  | zero => intro a1 M; exact G_none
  | succ n ih => intro a1 M; exact gd_X9_undo_L22_body hy h kx1 hx1 _ ih a1 M
set_option maxRecDepth 20000 in
theorem c_X9_undo (l : Launch) (y : Cy) (hy : Inj y) (M : Mem) : CT l y yX9_undo cX9_undo 2 (some .int) rX9_undo [.ref (y.2.1 143)] M (d_X9_undo M) := by
  refine CT_of (by decide) hy (Nat.le_of_ble_eq_true rfl) (fun x hxl h => ?_)
  show G x y 0 [(0, .ref (y.2.1 143))] [] M _
  unfold d_X9_undo
  refine G_aload_n (pc := 0) h.1 dX9_undo_0 rfl 0 rfl ?_
  refine G_get (pc := 1) (v := .int (M 143 2)) h.1 fl_X9_60 lN143 (eM143 _) rfl dX9_undo_1 ?_
  refine G_if_ne (pc := 4) (tgt := 10) h.1 dX9_undo_4 (by decide) ?_ ?_
  · refine G_aload_n (pc := 10) h.1 dX9_undo_10 rfl 0 rfl ?_
    refine G_dup (pc := 11) h.1 dX9_undo_11 rfl ?_
    refine G_get (pc := 12) (v := .int (M 143 2)) h.1 fl_X9_60 lN143 (eM143 _) rfl dX9_undo_12 ?_
    refine G_iconst (pc := 15) (v := (1)) h.1 dX9_undo_15 (by decide) ?_
    refine G_isub (pc := 16) h.1 dX9_undo_16 ?_
    refine G_put (pc := 17) h.1 fp_X9_60 lN143 (fun m => eM143 m) (fun _ => rfl) (fun _ => Nat.le_of_ble_eq_true rfl) rfl rfl dX9_undo_17 (fun M1 => ?_)
    refine G_iconst (pc := 20) (v := (0)) h.1 dX9_undo_20 (by decide) ?_
    refine G_istore_n (pc := 21) h.1 h.2.1 [(1, .int (0 : Int32)), (0, .ref (y.2.1 143))] dX9_undo_21 rfl (by decide) rfl ?_
    refine G_sub [1, 0] rfl (gd_X9_undo_L22 hy h _ (fun M4 => ?_) fuelN (0 : Int32) M1)
    refine G_aload_n (pc := 56) h.1 dX9_undo_56 rfl 0 rfl ?_
    refine G_get (pc := 57) (v := .int (M4 143 2)) h.1 fl_X9_60 lN143 (eM143 _) rfl dX9_undo_57 ?_
    exact G_ret (pc := 60) h rfl dX9_undo_60
  · refine G_bipush (pc := 7) (v := (-5)) h.1 dX9_undo_7 (by decide) ?_
    exact G_ret (pc := 9) h rfl dX9_undo_9
theorem dX9_keep_0 : decode cX9_keep 0 = .ok (.iconst 0, 1) := by decide +kernel
theorem dX9_keep_1 : decode cX9_keep 1 = .ok (.istore_n 1, 1) := by decide +kernel
theorem dX9_keep_2 : decode cX9_keep 2 = .ok (.iload_n 1, 1) := by decide +kernel
theorem dX9_keep_3 : decode cX9_keep 3 = .ok (.sipush 366, 3) := by decide +kernel
theorem dX9_keep_6 : decode cX9_keep 6 = .ok (.if_icmp .ge 21, 3) := by decide +kernel
theorem dX9_keep_9 : decode cX9_keep 9 = .ok (.aload_n 0, 1) := by decide +kernel
theorem dX9_keep_10 : decode cX9_keep 10 = .ok (.getfield 16, 3) := by decide +kernel
theorem dX9_keep_13 : decode cX9_keep 13 = .ok (.iload_n 1, 1) := by decide +kernel
theorem dX9_keep_14 : decode cX9_keep 14 = .ok (.aload_n 0, 1) := by decide +kernel
theorem dX9_keep_15 : decode cX9_keep 15 = .ok (.getfield 7, 3) := by decide +kernel
theorem dX9_keep_18 : decode cX9_keep 18 = .ok (.iload_n 1, 1) := by decide +kernel
theorem dX9_keep_19 : decode cX9_keep 19 = .ok (.iaload, 1) := by decide +kernel
theorem dX9_keep_20 : decode cX9_keep 20 = .ok (.iastore, 1) := by decide +kernel
theorem dX9_keep_21 : decode cX9_keep 21 = .ok (.iinc 1 1, 3) := by decide +kernel
theorem dX9_keep_24 : decode cX9_keep 24 = .ok (.goto (-22), 3) := by decide +kernel
theorem dX9_keep_27 : decode cX9_keep 27 = .ok (.aload_n 0, 1) := by decide +kernel
theorem dX9_keep_28 : decode cX9_keep 28 = .ok (.iconst 1, 1) := by decide +kernel
theorem dX9_keep_29 : decode cX9_keep 29 = .ok (.putfield 202, 3) := by decide +kernel
theorem dX9_keep_32 : decode cX9_keep 32 = .ok (.aload_n 0, 1) := by decide +kernel
theorem dX9_keep_33 : decode cX9_keep 33 = .ok (.getfield 7, 3) := by decide +kernel
theorem dX9_keep_36 : decode cX9_keep 36 = .ok (.iconst 0, 1) := by decide +kernel
theorem dX9_keep_37 : decode cX9_keep 37 = .ok (.iaload, 1) := by decide +kernel
theorem dX9_keep_38 : decode cX9_keep 38 = .ok (.ireturn, 1) := by decide +kernel
abbrev rX9_keep : Room := { frames := 0, cells := 0, slots := 0, locals := 0 }
set_option maxRecDepth 20000 in
theorem gd_X9_keep_L2_body {x : Cx} {y : Cy} (hy : Inj y) (h : OkM x y cX9_keep RX9 2 (some .int) rX9_keep) (kx1 : Mem → Ans) (hx1 : ∀ M0 : Mem, G x y 27 [(0, .ref (y.2.1 143))] [] M0 (kx1 M0)) (kb : Int32 → Mem → Ans) (hb : ∀ (b1 : Int32), ∀ M0 : Mem, G x y 2 [(0, .ref (y.2.1 143)), (1, .int b1)] [] M0 (kb b1 M0)) (a1 : Int32) (M : Mem) : G x y 2 [(0, .ref (y.2.1 143)), (1, .int a1)] [] M (d_X9_keep_L2_body kx1 kb a1 M) := by
  unfold d_X9_keep_L2_body
  refine G_iload_n (pc := 2) h.1 dX9_keep_2 rfl 1 rfl ?_
  refine G_sipush (pc := 3) (v := (366)) h.1 dX9_keep_3 (by decide) ?_
  refine G_icmp_ge (pc := 6) (tgt := 27) h.1 dX9_keep_6 (by decide) ?_ ?_
  · exact G_sub [0] rfl (hx1 M)
  · refine G_aload_n (pc := 9) h.1 dX9_keep_9 rfl 0 rfl ?_
    refine G_get (pc := 10) (v := .ref (y.2.1 146)) h.1 fl_X9_16 lN143 (eM143 _) rfl dX9_keep_10 ?_
    refine G_iload_n (pc := 13) h.1 dX9_keep_13 rfl 1 rfl ?_
    refine G_aload_n (pc := 14) h.1 dX9_keep_14 rfl 0 rfl ?_
    refine G_get (pc := 15) (v := .ref (y.2.1 144)) h.1 fl_X9_7 lN143 (eM143 _) rfl dX9_keep_15 ?_
    refine G_iload_n (pc := 18) h.1 dX9_keep_18 rfl 1 rfl ?_
    refine G_iald (pc := 19) h.1 lN144 (eM144 _) dX9_keep_19 ?_
    refine G_iast (pc := 20) h.1 lN146 (fun m => eM146 m) dX9_keep_20 (fun M1 => ?_)
    refine G_iinc (pc := 21) (v := a1 + (1)) h.1 h.2.1 (fun v2 => [(1, .int v2), (0, .ref (y.2.1 143))]) dX9_keep_21 (by decide) 1 rfl rfl (fun _ => rfl) (fun v2 => ?_)
    refine G_goto (pc := 24) (tgt := 2) h.1 dX9_keep_24 (by decide) ?_
    exact G_sub [1, 0] rfl (hb v2 M1)
set_option maxRecDepth 20000 in
theorem gd_X9_keep_L2 {x : Cx} {y : Cy} (hy : Inj y) (h : OkM x y cX9_keep RX9 2 (some .int) rX9_keep) (kx1 : Mem → Ans) (hx1 : ∀ M0 : Mem, G x y 27 [(0, .ref (y.2.1 143))] [] M0 (kx1 M0)) : ∀ (n : Nat) (a1 : Int32) (M : Mem), G x y 2 [(0, .ref (y.2.1 143)), (1, .int a1)] [] M (d_X9_keep_L2 kx1 n a1 M) := by
  intro n
  induction n with
  | zero => intro a1 M; exact G_none
  | succ n ih => intro a1 M; exact gd_X9_keep_L2_body hy h kx1 hx1 _ ih a1 M
set_option maxRecDepth 20000 in
theorem c_X9_keep (l : Launch) (y : Cy) (hy : Inj y) (M : Mem) : CT l y yX9_keep cX9_keep 2 (some .int) rX9_keep [.ref (y.2.1 143)] M (d_X9_keep M) := by
  refine CT_of (by decide) hy (Nat.le_of_ble_eq_true rfl) (fun x hxl h => ?_)
  show G x y 0 [(0, .ref (y.2.1 143))] [] M _
  unfold d_X9_keep
  refine G_iconst (pc := 0) (v := (0)) h.1 dX9_keep_0 (by decide) ?_
  refine G_istore_n (pc := 1) h.1 h.2.1 [(1, .int (0 : Int32)), (0, .ref (y.2.1 143))] dX9_keep_1 rfl (by decide) rfl ?_
  refine G_sub [1, 0] rfl (gd_X9_keep_L2 hy h _ (fun M3 => ?_) fuelN (0 : Int32) M)
  refine G_aload_n (pc := 27) h.1 dX9_keep_27 rfl 0 rfl ?_
  refine G_iconst (pc := 28) (v := (1)) h.1 dX9_keep_28 (by decide) ?_
  refine G_put (pc := 29) h.1 fp_X9_202 lN143 (fun m => eM143 m) (fun _ => rfl) (fun _ => Nat.le_of_ble_eq_true rfl) rfl rfl dX9_keep_29 (fun M4 => ?_)
  refine G_aload_n (pc := 32) h.1 dX9_keep_32 rfl 0 rfl ?_
  refine G_get (pc := 33) (v := .ref (y.2.1 144)) h.1 fl_X9_7 lN143 (eM143 _) rfl dX9_keep_33 ?_
  refine G_iconst (pc := 36) (v := (0)) h.1 dX9_keep_36 (by decide) ?_
  refine G_iald (pc := 37) h.1 lN144 (eM144 _) dX9_keep_37 ?_
  exact G_ret (pc := 38) h rfl dX9_keep_38
theorem dX9_restore_0 : decode cX9_restore 0 = .ok (.aload_n 0, 1) := by decide +kernel
theorem dX9_restore_1 : decode cX9_restore 1 = .ok (.getfield 202, 3) := by decide +kernel
theorem dX9_restore_4 : decode cX9_restore 4 = .ok (.ifCond .ne 6, 3) := by decide +kernel
theorem dX9_restore_7 : decode cX9_restore 7 = .ok (.bipush (-5), 2) := by decide +kernel
theorem dX9_restore_9 : decode cX9_restore 9 = .ok (.ireturn, 1) := by decide +kernel
theorem dX9_restore_10 : decode cX9_restore 10 = .ok (.aload_n 0, 1) := by decide +kernel
theorem dX9_restore_11 : decode cX9_restore 11 = .ok (.invokevirtual 107, 3) := by decide +kernel
theorem dX9_restore_14 : decode cX9_restore 14 = .ok (.iconst 0, 1) := by decide +kernel
theorem dX9_restore_15 : decode cX9_restore 15 = .ok (.istore_n 1, 1) := by decide +kernel
theorem dX9_restore_16 : decode cX9_restore 16 = .ok (.iload_n 1, 1) := by decide +kernel
theorem dX9_restore_17 : decode cX9_restore 17 = .ok (.sipush 366, 3) := by decide +kernel
theorem dX9_restore_20 : decode cX9_restore 20 = .ok (.if_icmp .ge 21, 3) := by decide +kernel
theorem dX9_restore_23 : decode cX9_restore 23 = .ok (.aload_n 0, 1) := by decide +kernel
theorem dX9_restore_24 : decode cX9_restore 24 = .ok (.getfield 7, 3) := by decide +kernel
theorem dX9_restore_27 : decode cX9_restore 27 = .ok (.iload_n 1, 1) := by decide +kernel
theorem dX9_restore_28 : decode cX9_restore 28 = .ok (.aload_n 0, 1) := by decide +kernel
theorem dX9_restore_29 : decode cX9_restore 29 = .ok (.getfield 16, 3) := by decide +kernel
theorem dX9_restore_32 : decode cX9_restore 32 = .ok (.iload_n 1, 1) := by decide +kernel
theorem dX9_restore_33 : decode cX9_restore 33 = .ok (.iaload, 1) := by decide +kernel
theorem dX9_restore_34 : decode cX9_restore 34 = .ok (.iastore, 1) := by decide +kernel
theorem dX9_restore_35 : decode cX9_restore 35 = .ok (.iinc 1 1, 3) := by decide +kernel
theorem dX9_restore_38 : decode cX9_restore 38 = .ok (.goto (-22), 3) := by decide +kernel
theorem dX9_restore_41 : decode cX9_restore 41 = .ok (.aload_n 0, 1) := by decide +kernel
theorem dX9_restore_42 : decode cX9_restore 42 = .ok (.getfield 7, 3) := by decide +kernel
theorem dX9_restore_45 : decode cX9_restore 45 = .ok (.iconst 0, 1) := by decide +kernel
theorem dX9_restore_46 : decode cX9_restore 46 = .ok (.iaload, 1) := by decide +kernel
theorem dX9_restore_47 : decode cX9_restore 47 = .ok (.ireturn, 1) := by decide +kernel
abbrev rX9_restore : Room := { frames := 1, cells := 0, slots := 0, locals := 21 }
set_option maxRecDepth 20000 in
theorem gd_X9_restore_L16_body {x : Cx} {y : Cy} (hy : Inj y) (h : OkM x y cX9_restore RX9 2 (some .int) rX9_restore) (kx1 : Mem → Ans) (hx1 : ∀ M0 : Mem, G x y 41 [(0, .ref (y.2.1 143))] [] M0 (kx1 M0)) (kb : Int32 → Mem → Ans) (hb : ∀ (b1 : Int32), ∀ M0 : Mem, G x y 16 [(0, .ref (y.2.1 143)), (1, .int b1)] [] M0 (kb b1 M0)) (a1 : Int32) (M : Mem) : G x y 16 [(0, .ref (y.2.1 143)), (1, .int a1)] [] M (d_X9_restore_L16_body kx1 kb a1 M) := by
  unfold d_X9_restore_L16_body
  refine G_iload_n (pc := 16) h.1 dX9_restore_16 rfl 1 rfl ?_
  refine G_sipush (pc := 17) (v := (366)) h.1 dX9_restore_17 (by decide) ?_
  refine G_icmp_ge (pc := 20) (tgt := 41) h.1 dX9_restore_20 (by decide) ?_ ?_
  · exact G_sub [0] rfl (hx1 M)
  · refine G_aload_n (pc := 23) h.1 dX9_restore_23 rfl 0 rfl ?_
    refine G_get (pc := 24) (v := .ref (y.2.1 144)) h.1 fl_X9_7 lN143 (eM143 _) rfl dX9_restore_24 ?_
    refine G_iload_n (pc := 27) h.1 dX9_restore_27 rfl 1 rfl ?_
    refine G_aload_n (pc := 28) h.1 dX9_restore_28 rfl 0 rfl ?_
    refine G_get (pc := 29) (v := .ref (y.2.1 146)) h.1 fl_X9_16 lN143 (eM143 _) rfl dX9_restore_29 ?_
    refine G_iload_n (pc := 32) h.1 dX9_restore_32 rfl 1 rfl ?_
    refine G_iald (pc := 33) h.1 lN146 (eM146 _) dX9_restore_33 ?_
    refine G_iast (pc := 34) h.1 lN144 (fun m => eM144 m) dX9_restore_34 (fun M3 => ?_)
    refine G_iinc (pc := 35) (v := a1 + (1)) h.1 h.2.1 (fun v4 => [(1, .int v4), (0, .ref (y.2.1 143))]) dX9_restore_35 (by decide) 1 rfl rfl (fun _ => rfl) (fun v4 => ?_)
    refine G_goto (pc := 38) (tgt := 16) h.1 dX9_restore_38 (by decide) ?_
    exact G_sub [1, 0] rfl (hb v4 M3)
set_option maxRecDepth 20000 in
theorem gd_X9_restore_L16 {x : Cx} {y : Cy} (hy : Inj y) (h : OkM x y cX9_restore RX9 2 (some .int) rX9_restore) (kx1 : Mem → Ans) (hx1 : ∀ M0 : Mem, G x y 41 [(0, .ref (y.2.1 143))] [] M0 (kx1 M0)) : ∀ (n : Nat) (a1 : Int32) (M : Mem), G x y 16 [(0, .ref (y.2.1 143)), (1, .int a1)] [] M (d_X9_restore_L16 kx1 n a1 M) := by
  intro n
  induction n with
  | zero => intro a1 M; exact G_none
  | succ n ih => intro a1 M; exact gd_X9_restore_L16_body hy h kx1 hx1 _ ih a1 M
set_option maxRecDepth 20000 in
theorem c_X9_restore (l : Launch) (y : Cy) (hy : Inj y) (M : Mem) : CT l y yX9_restore cX9_restore 2 (some .int) rX9_restore [.ref (y.2.1 143)] M (d_X9_restore M) := by
  refine CT_of (by decide) hy (Nat.le_of_ble_eq_true rfl) (fun x hxl h => ?_)
  show G x y 0 [(0, .ref (y.2.1 143))] [] M _
  unfold d_X9_restore
  refine G_aload_n (pc := 0) h.1 dX9_restore_0 rfl 0 rfl ?_
  refine G_get (pc := 1) (v := .int (M 143 4)) h.1 fl_X9_202 lN143 (eM143 _) rfl dX9_restore_1 ?_
  refine G_if_ne (pc := 4) (tgt := 10) h.1 dX9_restore_4 (by decide) ?_ ?_
  · refine G_aload_n (pc := 10) h.1 dX9_restore_10 rfl 0 rfl ?_
    refine G_callVv (pc := 11) (As := []) (rest := []) h.1 h.2.2.1 lk_X9_107 lN143 (eM143 _) rfl rfl (c_X9_record x.1.2.1 y hy M) rfl rfl (Nat.le_of_ble_eq_true rfl) ⟨rfl, rfl, Nat.le_of_ble_eq_true rfl, Nat.le_of_ble_eq_true rfl⟩ dX9_restore_11 (fun r2 M1 => ?_)
    refine G_iconst (pc := 14) (v := (0)) h.1 dX9_restore_14 (by decide) ?_
    refine G_istore_n (pc := 15) h.1 h.2.1 [(1, .int (0 : Int32)), (0, .ref (y.2.1 143))] dX9_restore_15 rfl (by decide) rfl ?_
    refine G_sub [1, 0] rfl (gd_X9_restore_L16 hy h _ (fun M5 => ?_) fuelN (0 : Int32) M1)
    refine G_aload_n (pc := 41) h.1 dX9_restore_41 rfl 0 rfl ?_
    refine G_get (pc := 42) (v := .ref (y.2.1 144)) h.1 fl_X9_7 lN143 (eM143 _) rfl dX9_restore_42 ?_
    refine G_iconst (pc := 45) (v := (0)) h.1 dX9_restore_45 (by decide) ?_
    refine G_iald (pc := 46) h.1 lN144 (eM144 _) dX9_restore_46 ?_
    exact G_ret (pc := 47) h rfl dX9_restore_47
  · refine G_bipush (pc := 7) (v := (-5)) h.1 dX9_restore_7 (by decide) ?_
    exact G_ret (pc := 9) h rfl dX9_restore_9
theorem dX9_bookings_0 : decode cX9_bookings 0 = .ok (.iconst 0, 1) := by decide +kernel
theorem dX9_bookings_1 : decode cX9_bookings 1 = .ok (.istore 5, 2) := by decide +kernel
theorem dX9_bookings_3 : decode cX9_bookings 3 = .ok (.iconst 0, 1) := by decide +kernel
theorem dX9_bookings_4 : decode cX9_bookings 4 = .ok (.istore 6, 2) := by decide +kernel
theorem dX9_bookings_6 : decode cX9_bookings 6 = .ok (.iload 6, 2) := by decide +kernel
theorem dX9_bookings_8 : decode cX9_bookings 8 = .ok (.aload_n 0, 1) := by decide +kernel
theorem dX9_bookings_9 : decode cX9_bookings 9 = .ok (.getfield 7, 3) := by decide +kernel
theorem dX9_bookings_12 : decode cX9_bookings 12 = .ok (.iconst 5, 1) := by decide +kernel
theorem dX9_bookings_13 : decode cX9_bookings 13 = .ok (.iaload, 1) := by decide +kernel
theorem dX9_bookings_14 : decode cX9_bookings 14 = .ok (.if_icmp .ge 65, 3) := by decide +kernel
theorem dX9_bookings_17 : decode cX9_bookings 17 = .ok (.iload 5, 2) := by decide +kernel
theorem dX9_bookings_19 : decode cX9_bookings 19 = .ok (.iload_n 1, 1) := by decide +kernel
theorem dX9_bookings_20 : decode cX9_bookings 20 = .ok (.ifCond .lt 14, 3) := by decide +kernel
theorem dX9_bookings_23 : decode cX9_bookings 23 = .ok (.aload_n 0, 1) := by decide +kernel
theorem dX9_bookings_24 : decode cX9_bookings 24 = .ok (.iload 6, 2) := by decide +kernel
theorem dX9_bookings_26 : decode cX9_bookings 26 = .ok (.iconst 0, 1) := by decide +kernel
theorem dX9_bookings_27 : decode cX9_bookings 27 = .ok (.invokevirtual 56, 3) := by decide +kernel
theorem dX9_bookings_30 : decode cX9_bookings 30 = .ok (.iload_n 1, 1) := by decide +kernel
theorem dX9_bookings_31 : decode cX9_bookings 31 = .ok (.if_icmp .ne 38, 3) := by decide +kernel
theorem dX9_bookings_34 : decode cX9_bookings 34 = .ok (.iload_n 2, 1) := by decide +kernel
theorem dX9_bookings_35 : decode cX9_bookings 35 = .ok (.ifCond .lt 14, 3) := by decide +kernel
theorem dX9_bookings_38 : decode cX9_bookings 38 = .ok (.aload_n 0, 1) := by decide +kernel
theorem dX9_bookings_39 : decode cX9_bookings 39 = .ok (.iload 6, 2) := by decide +kernel
theorem dX9_bookings_41 : decode cX9_bookings 41 = .ok (.iconst 1, 1) := by decide +kernel
theorem dX9_bookings_42 : decode cX9_bookings 42 = .ok (.invokevirtual 56, 3) := by decide +kernel
theorem dX9_bookings_45 : decode cX9_bookings 45 = .ok (.iload_n 2, 1) := by decide +kernel
theorem dX9_bookings_46 : decode cX9_bookings 46 = .ok (.if_icmp .ne 23, 3) := by decide +kernel
theorem dX9_bookings_49 : decode cX9_bookings 49 = .ok (.aload_n 0, 1) := by decide +kernel
theorem dX9_bookings_50 : decode cX9_bookings 50 = .ok (.iload 6, 2) := by decide +kernel
theorem dX9_bookings_52 : decode cX9_bookings 52 = .ok (.iconst 3, 1) := by decide +kernel
theorem dX9_bookings_53 : decode cX9_bookings 53 = .ok (.invokevirtual 56, 3) := by decide +kernel
theorem dX9_bookings_56 : decode cX9_bookings 56 = .ok (.iload_n 3, 1) := by decide +kernel
theorem dX9_bookings_57 : decode cX9_bookings 57 = .ok (.iload 4, 2) := by decide +kernel
theorem dX9_bookings_59 : decode cX9_bookings 59 = .ok (.invokestatic 52, 3) := by decide +kernel
theorem dX9_bookings_62 : decode cX9_bookings 62 = .ok (.ifCond .eq 7, 3) := by decide +kernel
theorem dX9_bookings_65 : decode cX9_bookings 65 = .ok (.iconst 1, 1) := by decide +kernel
theorem dX9_bookings_66 : decode cX9_bookings 66 = .ok (.goto 4, 3) := by decide +kernel
theorem dX9_bookings_69 : decode cX9_bookings 69 = .ok (.iconst 0, 1) := by decide +kernel
theorem dX9_bookings_70 : decode cX9_bookings 70 = .ok (.iadd, 1) := by decide +kernel
theorem dX9_bookings_71 : decode cX9_bookings 71 = .ok (.istore 5, 2) := by decide +kernel
theorem dX9_bookings_73 : decode cX9_bookings 73 = .ok (.iinc 6 1, 3) := by decide +kernel
theorem dX9_bookings_76 : decode cX9_bookings 76 = .ok (.goto (-70), 3) := by decide +kernel
theorem dX9_bookings_79 : decode cX9_bookings 79 = .ok (.iload 5, 2) := by decide +kernel
theorem dX9_bookings_81 : decode cX9_bookings 81 = .ok (.ireturn, 1) := by decide +kernel
abbrev rX9_bookings : Room := { frames := 1, cells := 0, slots := 0, locals := 22 }
set_option maxRecDepth 20000 in
theorem gd_X9_bookings_B70 {x : Cx} {y : Cy} (hy : Inj y) (h : OkM x y cX9_bookings RX9 7 (some .int) rX9_bookings) (kx1 : Int32 → Mem → Ans) (kb : Int32 → Int32 → Mem → Ans) (a1 : Int32) (a2 : Int32) (a3 : Int32) (a4 : Int32) (a6 : Int32) (s0 : Int32) (s1 : Int32) (hx1 : ∀ (b5 : Int32), ∀ M0 : Mem, G x y 79 [(5, .int b5)] [] M0 (kx1 b5 M0)) (hb : ∀ (b5 b6 : Int32), ∀ M0 : Mem, G x y 6 [(0, .ref (y.2.1 143)), (1, .int a1), (2, .int a2), (3, .int a3), (4, .int a4), (5, .int b5), (6, .int b6)] [] M0 (kb b5 b6 M0)) (M : Mem) : G x y 70 [(0, .ref (y.2.1 143)), (1, .int a1), (2, .int a2), (3, .int a3), (4, .int a4), (6, .int a6)] [.int s0, .int s1] M (d_X9_bookings_B70 kx1 kb a1 a2 a3 a4 a6 s0 s1 M) := by
  unfold d_X9_bookings_B70
  refine G_iadd (pc := 70) h.1 dX9_bookings_70 ?_
  refine G_top (fun v5 => ?_)
  refine G_istore (pc := 71) h.1 h.2.1 [(5, .int v5), (0, .ref (y.2.1 143)), (1, .int a1), (2, .int a2), (3, .int a3), (4, .int a4), (6, .int a6)] dX9_bookings_71 (by decide) rfl ?_
  refine G_iinc (pc := 73) (v := a6 + (1)) h.1 h.2.1 (fun v6 => [(6, .int v6), (5, .int v5), (0, .ref (y.2.1 143)), (1, .int a1), (2, .int a2), (3, .int a3), (4, .int a4)]) dX9_bookings_73 (by decide) 6 rfl rfl (fun _ => rfl) (fun v6 => ?_)
  refine G_goto (pc := 76) (tgt := 6) h.1 dX9_bookings_76 (by decide) ?_
  exact G_sub [2, 3, 4, 5, 6, 1, 0] rfl (hb v5 v6 M)
set_option maxRecDepth 20000 in
theorem gd_X9_bookings_B69 {x : Cx} {y : Cy} (hy : Inj y) (h : OkM x y cX9_bookings RX9 7 (some .int) rX9_bookings) (kx1 : Int32 → Mem → Ans) (kb : Int32 → Int32 → Mem → Ans) (a1 : Int32) (a2 : Int32) (a3 : Int32) (a4 : Int32) (a6 : Int32) (s0 : Int32) (hx1 : ∀ (b5 : Int32), ∀ M0 : Mem, G x y 79 [(5, .int b5)] [] M0 (kx1 b5 M0)) (hb : ∀ (b5 b6 : Int32), ∀ M0 : Mem, G x y 6 [(0, .ref (y.2.1 143)), (1, .int a1), (2, .int a2), (3, .int a3), (4, .int a4), (5, .int b5), (6, .int b6)] [] M0 (kb b5 b6 M0)) (M : Mem) : G x y 69 [(0, .ref (y.2.1 143)), (1, .int a1), (2, .int a2), (3, .int a3), (4, .int a4), (6, .int a6)] [.int s0] M (d_X9_bookings_B69 kx1 kb a1 a2 a3 a4 a6 s0 M) := by
  unfold d_X9_bookings_B69
  refine G_iconst (pc := 69) (v := (0)) h.1 dX9_bookings_69 (by decide) ?_
  exact G_sub [0, 1, 2, 3, 4, 5] rfl (gd_X9_bookings_B70 hy h kx1 kb a1 a2 a3 a4 a6 (0 : Int32) s0 hx1 hb M)
set_option maxRecDepth 20000 in
theorem gd_X9_bookings_B49 {x : Cx} {y : Cy} (hy : Inj y) (h : OkM x y cX9_bookings RX9 7 (some .int) rX9_bookings) (kx1 : Int32 → Mem → Ans) (kb : Int32 → Int32 → Mem → Ans) (a1 : Int32) (a2 : Int32) (a3 : Int32) (a4 : Int32) (a6 : Int32) (s0 : Int32) (hx1 : ∀ (b5 : Int32), ∀ M0 : Mem, G x y 79 [(5, .int b5)] [] M0 (kx1 b5 M0)) (hb : ∀ (b5 b6 : Int32), ∀ M0 : Mem, G x y 6 [(0, .ref (y.2.1 143)), (1, .int a1), (2, .int a2), (3, .int a3), (4, .int a4), (5, .int b5), (6, .int b6)] [] M0 (kb b5 b6 M0)) (M : Mem) : G x y 49 [(0, .ref (y.2.1 143)), (1, .int a1), (2, .int a2), (3, .int a3), (4, .int a4), (6, .int a6)] [.int s0] M (d_X9_bookings_B49 kx1 kb a1 a2 a3 a4 a6 s0 M) := by
  unfold d_X9_bookings_B49
  refine G_aload_n (pc := 49) h.1 dX9_bookings_49 rfl 0 rfl ?_
  refine G_iload (pc := 50) h.1 dX9_bookings_50 5 rfl ?_
  refine G_iconst (pc := 52) (v := (3)) h.1 dX9_bookings_52 (by decide) ?_
  refine G_callV (pc := 53) (As := [.int a6, .int (3 : Int32)]) (rest := [.int s0]) h.1 h.2.2.1 lk_X9_56 lN143 (eM143 _) rfl rfl (c_X9_of x.1.2.1 y hy a6 (3 : Int32) M) rfl rfl (Nat.le_of_ble_eq_true rfl) ⟨rfl, rfl, Nat.le_of_ble_eq_true rfl, Nat.le_of_ble_eq_true rfl⟩ dX9_bookings_53 (fun r2 M1 => ?_)
  refine G_iload_n (pc := 56) h.1 dX9_bookings_56 rfl 3 rfl ?_
  refine G_iload (pc := 57) h.1 dX9_bookings_57 4 rfl ?_
  refine G_callS (pc := 59) (As := [.int r2, .int a3, .int a4]) (rest := [.int s0]) h.1 h.2.2.1 lk_X9_52 (c_X9_in x.1.2.1 y hy r2 a3 a4 M1) rfl rfl (Nat.le_of_ble_eq_true rfl) ⟨rfl, rfl, Nat.le_of_ble_eq_true rfl, Nat.le_of_ble_eq_true rfl⟩ dX9_bookings_59 (fun r4 M3 => ?_)
  refine G_if_eq (pc := 62) (tgt := 69) h.1 dX9_bookings_62 (by decide) ?_ ?_
  · exact G_sub [0, 1, 2, 3, 4, 5] rfl (gd_X9_bookings_B69 hy h kx1 kb a1 a2 a3 a4 a6 s0 hx1 hb M3)
  · refine G_iconst (pc := 65) (v := (1)) h.1 dX9_bookings_65 (by decide) ?_
    refine G_goto (pc := 66) (tgt := 70) h.1 dX9_bookings_66 (by decide) ?_
    exact G_sub [0, 1, 2, 3, 4, 5] rfl (gd_X9_bookings_B70 hy h kx1 kb a1 a2 a3 a4 a6 (1 : Int32) s0 hx1 hb M3)
set_option maxRecDepth 20000 in
theorem gd_X9_bookings_B34 {x : Cx} {y : Cy} (hy : Inj y) (h : OkM x y cX9_bookings RX9 7 (some .int) rX9_bookings) (kx1 : Int32 → Mem → Ans) (kb : Int32 → Int32 → Mem → Ans) (a1 : Int32) (a2 : Int32) (a3 : Int32) (a4 : Int32) (a6 : Int32) (s0 : Int32) (hx1 : ∀ (b5 : Int32), ∀ M0 : Mem, G x y 79 [(5, .int b5)] [] M0 (kx1 b5 M0)) (hb : ∀ (b5 b6 : Int32), ∀ M0 : Mem, G x y 6 [(0, .ref (y.2.1 143)), (1, .int a1), (2, .int a2), (3, .int a3), (4, .int a4), (5, .int b5), (6, .int b6)] [] M0 (kb b5 b6 M0)) (M : Mem) : G x y 34 [(0, .ref (y.2.1 143)), (1, .int a1), (2, .int a2), (3, .int a3), (4, .int a4), (6, .int a6)] [.int s0] M (d_X9_bookings_B34 kx1 kb a1 a2 a3 a4 a6 s0 M) := by
  unfold d_X9_bookings_B34
  refine G_iload_n (pc := 34) h.1 dX9_bookings_34 rfl 2 rfl ?_
  refine G_if_lt (pc := 35) (tgt := 49) h.1 dX9_bookings_35 (by decide) ?_ ?_
  · exact G_sub [0, 1, 2, 3, 4, 5] rfl (gd_X9_bookings_B49 hy h kx1 kb a1 a2 a3 a4 a6 s0 hx1 hb M)
  · refine G_aload_n (pc := 38) h.1 dX9_bookings_38 rfl 0 rfl ?_
    refine G_iload (pc := 39) h.1 dX9_bookings_39 5 rfl ?_
    refine G_iconst (pc := 41) (v := (1)) h.1 dX9_bookings_41 (by decide) ?_
    refine G_callV (pc := 42) (As := [.int a6, .int (1 : Int32)]) (rest := [.int s0]) h.1 h.2.2.1 lk_X9_56 lN143 (eM143 _) rfl rfl (c_X9_of x.1.2.1 y hy a6 (1 : Int32) M) rfl rfl (Nat.le_of_ble_eq_true rfl) ⟨rfl, rfl, Nat.le_of_ble_eq_true rfl, Nat.le_of_ble_eq_true rfl⟩ dX9_bookings_42 (fun r8 M7 => ?_)
    refine G_iload_n (pc := 45) h.1 dX9_bookings_45 rfl 2 rfl ?_
    refine G_icmp_ne (pc := 46) (tgt := 69) h.1 dX9_bookings_46 (by decide) ?_ ?_
    · exact G_sub [0, 1, 2, 3, 4, 5] rfl (gd_X9_bookings_B69 hy h kx1 kb a1 a2 a3 a4 a6 s0 hx1 hb M7)
    · exact G_sub [0, 1, 2, 3, 4, 5] rfl (gd_X9_bookings_B49 hy h kx1 kb a1 a2 a3 a4 a6 s0 hx1 hb M7)
set_option maxRecDepth 20000 in
theorem gd_X9_bookings_L6_body {x : Cx} {y : Cy} (hy : Inj y) (h : OkM x y cX9_bookings RX9 7 (some .int) rX9_bookings) (a1 : Int32) (a2 : Int32) (a3 : Int32) (a4 : Int32) (kx1 : Int32 → Mem → Ans) (hx1 : ∀ (b5 : Int32), ∀ M0 : Mem, G x y 79 [(5, .int b5)] [] M0 (kx1 b5 M0)) (kb : Int32 → Int32 → Mem → Ans) (hb : ∀ (b5 b6 : Int32), ∀ M0 : Mem, G x y 6 [(0, .ref (y.2.1 143)), (1, .int a1), (2, .int a2), (3, .int a3), (4, .int a4), (5, .int b5), (6, .int b6)] [] M0 (kb b5 b6 M0)) (a5 : Int32) (a6 : Int32) (M : Mem) : G x y 6 [(0, .ref (y.2.1 143)), (1, .int a1), (2, .int a2), (3, .int a3), (4, .int a4), (5, .int a5), (6, .int a6)] [] M (d_X9_bookings_L6_body a1 a2 a3 a4 kx1 kb a5 a6 M) := by
  unfold d_X9_bookings_L6_body
  refine G_iload (pc := 6) h.1 dX9_bookings_6 6 rfl ?_
  refine G_aload_n (pc := 8) h.1 dX9_bookings_8 rfl 0 rfl ?_
  refine G_get (pc := 9) (v := .ref (y.2.1 144)) h.1 fl_X9_7 lN143 (eM143 _) rfl dX9_bookings_9 ?_
  refine G_iconst (pc := 12) (v := (5)) h.1 dX9_bookings_12 (by decide) ?_
  refine G_iald (pc := 13) h.1 lN144 (eM144 _) dX9_bookings_13 ?_
  refine G_icmp_ge (pc := 14) (tgt := 79) h.1 dX9_bookings_14 (by decide) ?_ ?_
  · exact G_sub [5] rfl (hx1 a5 M)
  · refine G_iload (pc := 17) h.1 dX9_bookings_17 5 rfl ?_
    refine G_iload_n (pc := 19) h.1 dX9_bookings_19 rfl 1 rfl ?_
    refine G_if_lt (pc := 20) (tgt := 34) h.1 dX9_bookings_20 (by decide) ?_ ?_
    · exact G_sub [0, 1, 2, 3, 4, 6] rfl (gd_X9_bookings_B34 hy h kx1 kb a1 a2 a3 a4 a6 a5 hx1 hb M)
    · refine G_aload_n (pc := 23) h.1 dX9_bookings_23 rfl 0 rfl ?_
      refine G_iload (pc := 24) h.1 dX9_bookings_24 6 rfl ?_
      refine G_iconst (pc := 26) (v := (0)) h.1 dX9_bookings_26 (by decide) ?_
      refine G_callV (pc := 27) (As := [.int a6, .int (0 : Int32)]) (rest := [.int a5]) h.1 h.2.2.1 lk_X9_56 lN143 (eM143 _) rfl rfl (c_X9_of x.1.2.1 y hy a6 (0 : Int32) M) rfl rfl (Nat.le_of_ble_eq_true rfl) ⟨rfl, rfl, Nat.le_of_ble_eq_true rfl, Nat.le_of_ble_eq_true rfl⟩ dX9_bookings_27 (fun r10 M9 => ?_)
      refine G_iload_n (pc := 30) h.1 dX9_bookings_30 rfl 1 rfl ?_
      refine G_icmp_ne (pc := 31) (tgt := 69) h.1 dX9_bookings_31 (by decide) ?_ ?_
      · exact G_sub [0, 1, 2, 3, 4, 6] rfl (gd_X9_bookings_B69 hy h kx1 kb a1 a2 a3 a4 a6 a5 hx1 hb M9)
      · exact G_sub [0, 1, 2, 3, 4, 6] rfl (gd_X9_bookings_B34 hy h kx1 kb a1 a2 a3 a4 a6 a5 hx1 hb M9)
set_option maxRecDepth 20000 in
theorem gd_X9_bookings_L6 {x : Cx} {y : Cy} (hy : Inj y) (h : OkM x y cX9_bookings RX9 7 (some .int) rX9_bookings) (a1 : Int32) (a2 : Int32) (a3 : Int32) (a4 : Int32) (kx1 : Int32 → Mem → Ans) (hx1 : ∀ (b5 : Int32), ∀ M0 : Mem, G x y 79 [(5, .int b5)] [] M0 (kx1 b5 M0)) : ∀ (n : Nat) (a5 : Int32) (a6 : Int32) (M : Mem), G x y 6 [(0, .ref (y.2.1 143)), (1, .int a1), (2, .int a2), (3, .int a3), (4, .int a4), (5, .int a5), (6, .int a6)] [] M (d_X9_bookings_L6 a1 a2 a3 a4 kx1 n a5 a6 M) := by
  intro n
  induction n with
  | zero => intro a5 a6 M; exact G_none
  | succ n ih => intro a5 a6 M; exact gd_X9_bookings_L6_body hy h a1 a2 a3 a4 kx1 hx1 _ ih a5 a6 M
set_option maxRecDepth 20000 in
theorem c_X9_bookings (l : Launch) (y : Cy) (hy : Inj y) (p1 : Int32) (p2 : Int32) (p3 : Int32) (p4 : Int32) (M : Mem) : CT l y yX9_bookings cX9_bookings 7 (some .int) rX9_bookings [.ref (y.2.1 143), .int p1, .int p2, .int p3, .int p4] M (d_X9_bookings p1 p2 p3 p4 M) := by
  refine CT_of (by decide) hy (Nat.le_of_ble_eq_true rfl) (fun x hxl h => ?_)
  show G x y 0 [(0, .ref (y.2.1 143)), (1, .int p1), (2, .int p2), (3, .int p3), (4, .int p4)] [] M _
  unfold d_X9_bookings
  refine G_iconst (pc := 0) (v := (0)) h.1 dX9_bookings_0 (by decide) ?_
  refine G_istore (pc := 1) h.1 h.2.1 [(5, .int (0 : Int32)), (0, .ref (y.2.1 143)), (1, .int p1), (2, .int p2), (3, .int p3), (4, .int p4)] dX9_bookings_1 (by decide) rfl ?_
  refine G_iconst (pc := 3) (v := (0)) h.1 dX9_bookings_3 (by decide) ?_
  refine G_istore (pc := 4) h.1 h.2.1 [(6, .int (0 : Int32)), (5, .int (0 : Int32)), (0, .ref (y.2.1 143)), (1, .int p1), (2, .int p2), (3, .int p3), (4, .int p4)] dX9_bookings_4 (by decide) rfl ?_
  refine G_sub [2, 3, 4, 5, 6, 1, 0] rfl (gd_X9_bookings_L6 hy h p1 p2 p3 p4 _ (fun v11 M12 => ?_) fuelN (0 : Int32) (0 : Int32) M)
  refine G_iload (pc := 79) h.1 dX9_bookings_79 0 rfl ?_
  exact G_ret (pc := 81) h rfl dX9_bookings_81
theorem dX9_recipe_0 : decode cX9_recipe 0 = .ok (.aload_n 0, 1) := by decide +kernel
theorem dX9_recipe_1 : decode cX9_recipe 1 = .ok (.iload_n 1, 1) := by decide +kernel
theorem dX9_recipe_2 : decode cX9_recipe 2 = .ok (.invokevirtual 118, 3) := by decide +kernel
theorem dX9_recipe_5 : decode cX9_recipe 5 = .ok (.ifCond .eq 5, 3) := by decide +kernel
theorem dX9_recipe_8 : decode cX9_recipe 8 = .ok (.iconst (-1), 1) := by decide +kernel
theorem dX9_recipe_9 : decode cX9_recipe 9 = .ok (.ireturn, 1) := by decide +kernel
theorem dX9_recipe_10 : decode cX9_recipe 10 = .ok (.iload_n 2, 1) := by decide +kernel
theorem dX9_recipe_11 : decode cX9_recipe 11 = .ok (.iconst 0, 1) := by decide +kernel
theorem dX9_recipe_12 : decode cX9_recipe 12 = .ok (.iconst 3, 1) := by decide +kernel
theorem dX9_recipe_13 : decode cX9_recipe 13 = .ok (.invokestatic 52, 3) := by decide +kernel
theorem dX9_recipe_16 : decode cX9_recipe 16 = .ok (.ifCond .eq 12, 3) := by decide +kernel
theorem dX9_recipe_19 : decode cX9_recipe 19 = .ok (.aload_n 0, 1) := by decide +kernel
theorem dX9_recipe_20 : decode cX9_recipe 20 = .ok (.iload_n 1, 1) := by decide +kernel
theorem dX9_recipe_21 : decode cX9_recipe 21 = .ok (.iload_n 2, 1) := by decide +kernel
theorem dX9_recipe_22 : decode cX9_recipe 22 = .ok (.invokevirtual 63, 3) := by decide +kernel
theorem dX9_recipe_25 : decode cX9_recipe 25 = .ok (.goto 21, 3) := by decide +kernel
theorem dX9_recipe_28 : decode cX9_recipe 28 = .ok (.iload_n 2, 1) := by decide +kernel
theorem dX9_recipe_29 : decode cX9_recipe 29 = .ok (.iconst 4, 1) := by decide +kernel
theorem dX9_recipe_30 : decode cX9_recipe 30 = .ok (.if_icmp .ne 14, 3) := by decide +kernel
theorem dX9_recipe_33 : decode cX9_recipe 33 = .ok (.aload_n 0, 1) := by decide +kernel
theorem dX9_recipe_34 : decode cX9_recipe 34 = .ok (.iconst (-1), 1) := by decide +kernel
theorem dX9_recipe_35 : decode cX9_recipe 35 = .ok (.iload_n 1, 1) := by decide +kernel
theorem dX9_recipe_36 : decode cX9_recipe 36 = .ok (.iconst 2, 1) := by decide +kernel
theorem dX9_recipe_37 : decode cX9_recipe 37 = .ok (.iconst 2, 1) := by decide +kernel
theorem dX9_recipe_38 : decode cX9_recipe 38 = .ok (.invokevirtual 206, 3) := by decide +kernel
theorem dX9_recipe_41 : decode cX9_recipe 41 = .ok (.goto 5, 3) := by decide +kernel
theorem dX9_recipe_44 : decode cX9_recipe 44 = .ok (.bipush (-2), 2) := by decide +kernel
theorem dX9_recipe_46 : decode cX9_recipe 46 = .ok (.ireturn, 1) := by decide +kernel
abbrev rX9_recipe : Room := { frames := 2, cells := 0, slots := 0, locals := 48 }
set_option maxRecDepth 20000 in
theorem c_X9_recipe (l : Launch) (y : Cy) (hy : Inj y) (p1 : Int32) (p2 : Int32) (M : Mem) : CT l y yX9_recipe cX9_recipe 3 (some .int) rX9_recipe [.ref (y.2.1 143), .int p1, .int p2] M (d_X9_recipe p1 p2 M) := by
  refine CT_of (by decide) hy (Nat.le_of_ble_eq_true rfl) (fun x hxl h => ?_)
  show G x y 0 [(0, .ref (y.2.1 143)), (1, .int p1), (2, .int p2)] [] M _
  unfold d_X9_recipe
  refine G_aload_n (pc := 0) h.1 dX9_recipe_0 rfl 0 rfl ?_
  refine G_iload_n (pc := 1) h.1 dX9_recipe_1 rfl 1 rfl ?_
  refine G_callV (pc := 2) (As := [.int p1]) (rest := []) h.1 h.2.2.1 lk_X9_118 lN143 (eM143 _) rfl rfl (c_X9_noRecipe x.1.2.1 y hy p1 M) rfl rfl (Nat.le_of_ble_eq_true rfl) ⟨rfl, rfl, Nat.le_of_ble_eq_true rfl, Nat.le_of_ble_eq_true rfl⟩ dX9_recipe_2 (fun r2 M1 => ?_)
  refine G_if_eq (pc := 5) (tgt := 10) h.1 dX9_recipe_5 (by decide) ?_ ?_
  · refine G_iload_n (pc := 10) h.1 dX9_recipe_10 rfl 2 rfl ?_
    refine G_iconst (pc := 11) (v := (0)) h.1 dX9_recipe_11 (by decide) ?_
    refine G_iconst (pc := 12) (v := (3)) h.1 dX9_recipe_12 (by decide) ?_
    refine G_callS (pc := 13) (As := [.int p2, .int (0 : Int32), .int (3 : Int32)]) (rest := []) h.1 h.2.2.1 lk_X9_52 (c_X9_in x.1.2.1 y hy p2 (0 : Int32) (3 : Int32) M1) rfl rfl (Nat.le_of_ble_eq_true rfl) ⟨rfl, rfl, Nat.le_of_ble_eq_true rfl, Nat.le_of_ble_eq_true rfl⟩ dX9_recipe_13 (fun r4 M3 => ?_)
    refine G_if_eq (pc := 16) (tgt := 28) h.1 dX9_recipe_16 (by decide) ?_ ?_
    · refine G_iload_n (pc := 28) h.1 dX9_recipe_28 rfl 2 rfl ?_
      refine G_iconst (pc := 29) (v := (4)) h.1 dX9_recipe_29 (by decide) ?_
      refine G_icmp_ne (pc := 30) (tgt := 44) h.1 dX9_recipe_30 (by decide) ?_ ?_
      · refine G_bipush (pc := 44) (v := (-2)) h.1 dX9_recipe_44 (by decide) ?_
        exact G_ret (pc := 46) h rfl dX9_recipe_46
      · refine G_aload_n (pc := 33) h.1 dX9_recipe_33 rfl 0 rfl ?_
        refine G_iconst (pc := 34) (v := (-1)) h.1 dX9_recipe_34 (by decide) ?_
        refine G_iload_n (pc := 35) h.1 dX9_recipe_35 rfl 1 rfl ?_
        refine G_iconst (pc := 36) (v := (2)) h.1 dX9_recipe_36 (by decide) ?_
        refine G_iconst (pc := 37) (v := (2)) h.1 dX9_recipe_37 (by decide) ?_
        refine G_callV (pc := 38) (As := [.int (-1 : Int32), .int p1, .int (2 : Int32), .int (2 : Int32)]) (rest := []) h.1 h.2.2.1 lk_X9_206 lN143 (eM143 _) rfl rfl (c_X9_bookings x.1.2.1 y hy (-1 : Int32) p1 (2 : Int32) (2 : Int32) M3) rfl rfl (Nat.le_of_ble_eq_true rfl) ⟨rfl, rfl, Nat.le_of_ble_eq_true rfl, Nat.le_of_ble_eq_true rfl⟩ dX9_recipe_38 (fun r6 M5 => ?_)
        refine G_goto (pc := 41) (tgt := 46) h.1 dX9_recipe_41 (by decide) ?_
        exact G_ret (pc := 46) h rfl dX9_recipe_46
    · refine G_aload_n (pc := 19) h.1 dX9_recipe_19 rfl 0 rfl ?_
      refine G_iload_n (pc := 20) h.1 dX9_recipe_20 rfl 1 rfl ?_
      refine G_iload_n (pc := 21) h.1 dX9_recipe_21 rfl 2 rfl ?_
      refine G_callV (pc := 22) (As := [.int p1, .int p2]) (rest := []) h.1 h.2.2.1 lk_X9_63 lN143 (eM143 _) rfl rfl (c_X9_ofRecipe x.1.2.1 y hy p1 p2 M3) rfl rfl (Nat.le_of_ble_eq_true rfl) ⟨rfl, rfl, Nat.le_of_ble_eq_true rfl, Nat.le_of_ble_eq_true rfl⟩ dX9_recipe_22 (fun r8 M7 => ?_)
      refine G_goto (pc := 25) (tgt := 46) h.1 dX9_recipe_25 (by decide) ?_
      exact G_ret (pc := 46) h rfl dX9_recipe_46
  · refine G_iconst (pc := 8) (v := (-1)) h.1 dX9_recipe_8 (by decide) ?_
    exact G_ret (pc := 9) h rfl dX9_recipe_9
theorem dX9_robot_0 : decode cX9_robot 0 = .ok (.iload_n 1, 1) := by decide +kernel
theorem dX9_robot_1 : decode cX9_robot 1 = .ok (.invokestatic 114, 3) := by decide +kernel
theorem dX9_robot_4 : decode cX9_robot 4 = .ok (.ifCond .eq 5, 3) := by decide +kernel
theorem dX9_robot_7 : decode cX9_robot 7 = .ok (.iconst (-1), 1) := by decide +kernel
theorem dX9_robot_8 : decode cX9_robot 8 = .ok (.ireturn, 1) := by decide +kernel
theorem dX9_robot_9 : decode cX9_robot 9 = .ok (.aload_n 0, 1) := by decide +kernel
theorem dX9_robot_10 : decode cX9_robot 10 = .ok (.getfield 7, 3) := by decide +kernel
theorem dX9_robot_13 : decode cX9_robot 13 = .ok (.iconst 0, 1) := by decide +kernel
theorem dX9_robot_14 : decode cX9_robot 14 = .ok (.iaload, 1) := by decide +kernel
theorem dX9_robot_15 : decode cX9_robot 15 = .ok (.istore_n 3, 1) := by decide +kernel
theorem dX9_robot_16 : decode cX9_robot 16 = .ok (.iload_n 2, 1) := by decide +kernel
theorem dX9_robot_17 : decode cX9_robot 17 = .ok (.tableswitch 89 0 3 #[31, 40, 49, 68], 31) := by decide +kernel
theorem dX9_robot_48 : decode cX9_robot 48 = .ok (.aload_n 0, 1) := by decide +kernel
theorem dX9_robot_49 : decode cX9_robot 49 = .ok (.iload_n 1, 1) := by decide +kernel
theorem dX9_robot_50 : decode cX9_robot 50 = .ok (.iconst (-1), 1) := by decide +kernel
theorem dX9_robot_51 : decode cX9_robot 51 = .ok (.iconst 0, 1) := by decide +kernel
theorem dX9_robot_52 : decode cX9_robot 52 = .ok (.iconst 1, 1) := by decide +kernel
theorem dX9_robot_53 : decode cX9_robot 53 = .ok (.invokevirtual 206, 3) := by decide +kernel
theorem dX9_robot_56 : decode cX9_robot 56 = .ok (.ireturn, 1) := by decide +kernel
theorem dX9_robot_57 : decode cX9_robot 57 = .ok (.aload_n 0, 1) := by decide +kernel
theorem dX9_robot_58 : decode cX9_robot 58 = .ok (.iload_n 1, 1) := by decide +kernel
theorem dX9_robot_59 : decode cX9_robot 59 = .ok (.iconst (-1), 1) := by decide +kernel
theorem dX9_robot_60 : decode cX9_robot 60 = .ok (.iconst 2, 1) := by decide +kernel
theorem dX9_robot_61 : decode cX9_robot 61 = .ok (.iconst 2, 1) := by decide +kernel
theorem dX9_robot_62 : decode cX9_robot 62 = .ok (.invokevirtual 206, 3) := by decide +kernel
theorem dX9_robot_65 : decode cX9_robot 65 = .ok (.ireturn, 1) := by decide +kernel
theorem dX9_robot_66 : decode cX9_robot 66 = .ok (.aload_n 0, 1) := by decide +kernel
theorem dX9_robot_67 : decode cX9_robot 67 = .ok (.iload_n 1, 1) := by decide +kernel
theorem dX9_robot_68 : decode cX9_robot 68 = .ok (.iload_n 3, 1) := by decide +kernel
theorem dX9_robot_69 : decode cX9_robot 69 = .ok (.iload_n 3, 1) := by decide +kernel
theorem dX9_robot_70 : decode cX9_robot 70 = .ok (.iconst (-1), 1) := by decide +kernel
theorem dX9_robot_71 : decode cX9_robot 71 = .ok (.invokevirtual 93, 3) := by decide +kernel
theorem dX9_robot_74 : decode cX9_robot 74 = .ok (.bipush (-5), 2) := by decide +kernel
theorem dX9_robot_76 : decode cX9_robot 76 = .ok (.if_icmp .ne 7, 3) := by decide +kernel
theorem dX9_robot_79 : decode cX9_robot 79 = .ok (.iconst 0, 1) := by decide +kernel
theorem dX9_robot_80 : decode cX9_robot 80 = .ok (.goto 4, 3) := by decide +kernel
theorem dX9_robot_83 : decode cX9_robot 83 = .ok (.iconst 1, 1) := by decide +kernel
theorem dX9_robot_84 : decode cX9_robot 84 = .ok (.ireturn, 1) := by decide +kernel
theorem dX9_robot_85 : decode cX9_robot 85 = .ok (.aload_n 0, 1) := by decide +kernel
theorem dX9_robot_86 : decode cX9_robot 86 = .ok (.iload_n 1, 1) := by decide +kernel
theorem dX9_robot_87 : decode cX9_robot 87 = .ok (.iload_n 3, 1) := by decide +kernel
theorem dX9_robot_88 : decode cX9_robot 88 = .ok (.iload_n 3, 1) := by decide +kernel
theorem dX9_robot_89 : decode cX9_robot 89 = .ok (.iconst (-1), 1) := by decide +kernel
theorem dX9_robot_90 : decode cX9_robot 90 = .ok (.invokevirtual 93, 3) := by decide +kernel
theorem dX9_robot_93 : decode cX9_robot 93 = .ok (.bipush (-5), 2) := by decide +kernel
theorem dX9_robot_95 : decode cX9_robot 95 = .ok (.if_icmp .eq 9, 3) := by decide +kernel
theorem dX9_robot_98 : decode cX9_robot 98 = .ok (.iinc 3 1, 3) := by decide +kernel
theorem dX9_robot_101 : decode cX9_robot 101 = .ok (.goto (-16), 3) := by decide +kernel
theorem dX9_robot_104 : decode cX9_robot 104 = .ok (.iload_n 3, 1) := by decide +kernel
theorem dX9_robot_105 : decode cX9_robot 105 = .ok (.ireturn, 1) := by decide +kernel
theorem dX9_robot_106 : decode cX9_robot 106 = .ok (.bipush (-2), 2) := by decide +kernel
theorem dX9_robot_108 : decode cX9_robot 108 = .ok (.ireturn, 1) := by decide +kernel
abbrev rX9_robot : Room := { frames := 3, cells := 0, slots := 0, locals := 69 }
set_option maxRecDepth 20000 in
theorem gd_X9_robot_L85_body {x : Cx} {y : Cy} (hy : Inj y) (h : OkM x y cX9_robot RX9 4 (some .int) rX9_robot) (a1 : Int32) (kx1 : Int32 → Mem → Ans) (hx1 : ∀ (b3 : Int32), ∀ M0 : Mem, G x y 104 [(3, .int b3)] [] M0 (kx1 b3 M0)) (kb : Int32 → Mem → Ans) (hb : ∀ (b3 : Int32), ∀ M0 : Mem, G x y 85 [(0, .ref (y.2.1 143)), (1, .int a1), (3, .int b3)] [] M0 (kb b3 M0)) (a3 : Int32) (M : Mem) : G x y 85 [(0, .ref (y.2.1 143)), (1, .int a1), (3, .int a3)] [] M (d_X9_robot_L85_body a1 kx1 kb a3 M) := by
  unfold d_X9_robot_L85_body
  refine G_aload_n (pc := 85) h.1 dX9_robot_85 rfl 0 rfl ?_
  refine G_iload_n (pc := 86) h.1 dX9_robot_86 rfl 1 rfl ?_
  refine G_iload_n (pc := 87) h.1 dX9_robot_87 rfl 2 rfl ?_
  refine G_iload_n (pc := 88) h.1 dX9_robot_88 rfl 2 rfl ?_
  refine G_iconst (pc := 89) (v := (-1)) h.1 dX9_robot_89 (by decide) ?_
  refine G_callV (pc := 90) (As := [.int a1, .int a3, .int a3, .int (-1 : Int32)]) (rest := []) h.1 h.2.2.1 lk_X9_93 lN143 (eM143 _) rfl rfl (c_X9_keeper x.1.2.1 y hy a1 a3 a3 (-1 : Int32) M) rfl rfl (Nat.le_of_ble_eq_true rfl) ⟨rfl, rfl, Nat.le_of_ble_eq_true rfl, Nat.le_of_ble_eq_true rfl⟩ dX9_robot_90 (fun r14 M13 => ?_)
  refine G_bipush (pc := 93) (v := (-5)) h.1 dX9_robot_93 (by decide) ?_
  refine G_icmp_eq (pc := 95) (tgt := 104) h.1 dX9_robot_95 (by decide) ?_ ?_
  · exact G_sub [2] rfl (hx1 a3 M13)
  · refine G_iinc (pc := 98) (v := a3 + (1)) h.1 h.2.1 (fun v15 => [(3, .int v15), (0, .ref (y.2.1 143)), (1, .int a1)]) dX9_robot_98 (by decide) 2 rfl rfl (fun _ => rfl) (fun v15 => ?_)
    refine G_goto (pc := 101) (tgt := 85) h.1 dX9_robot_101 (by decide) ?_
    exact G_sub [1, 2, 0] rfl (hb v15 M13)
set_option maxRecDepth 20000 in
theorem gd_X9_robot_L85 {x : Cx} {y : Cy} (hy : Inj y) (h : OkM x y cX9_robot RX9 4 (some .int) rX9_robot) (a1 : Int32) (kx1 : Int32 → Mem → Ans) (hx1 : ∀ (b3 : Int32), ∀ M0 : Mem, G x y 104 [(3, .int b3)] [] M0 (kx1 b3 M0)) : ∀ (n : Nat) (a3 : Int32) (M : Mem), G x y 85 [(0, .ref (y.2.1 143)), (1, .int a1), (3, .int a3)] [] M (d_X9_robot_L85 a1 kx1 n a3 M) := by
  intro n
  induction n with
  | zero => intro a3 M; exact G_none
  | succ n ih => intro a3 M; exact gd_X9_robot_L85_body hy h a1 kx1 hx1 _ ih a3 M
set_option maxRecDepth 20000 in
theorem c_X9_robot (l : Launch) (y : Cy) (hy : Inj y) (p1 : Int32) (p2 : Int32) (M : Mem) : CT l y yX9_robot cX9_robot 4 (some .int) rX9_robot [.ref (y.2.1 143), .int p1, .int p2] M (d_X9_robot p1 p2 M) := by
  refine CT_of (by decide) hy (Nat.le_of_ble_eq_true rfl) (fun x hxl h => ?_)
  show G x y 0 [(0, .ref (y.2.1 143)), (1, .int p1), (2, .int p2)] [] M _
  unfold d_X9_robot
  refine G_iload_n (pc := 0) h.1 dX9_robot_0 rfl 1 rfl ?_
  refine G_callS (pc := 1) (As := [.int p1]) (rest := []) h.1 h.2.2.1 lk_X9_114 (c_X9_noRobot x.1.2.1 y hy p1 M) rfl rfl (Nat.le_of_ble_eq_true rfl) ⟨rfl, rfl, Nat.le_of_ble_eq_true rfl, Nat.le_of_ble_eq_true rfl⟩ dX9_robot_1 (fun r2 M1 => ?_)
  refine G_if_eq (pc := 4) (tgt := 9) h.1 dX9_robot_4 (by decide) ?_ ?_
  · refine G_aload_n (pc := 9) h.1 dX9_robot_9 rfl 0 rfl ?_
    refine G_get (pc := 10) (v := .ref (y.2.1 144)) h.1 fl_X9_7 lN143 (eM143 _) rfl dX9_robot_10 ?_
    refine G_iconst (pc := 13) (v := (0)) h.1 dX9_robot_13 (by decide) ?_
    refine G_iald (pc := 14) h.1 lN144 (eM144 _) dX9_robot_14 ?_
    refine G_top (fun v3 => ?_)
    refine G_istore_n (pc := 15) h.1 h.2.1 [(3, .int v3), (0, .ref (y.2.1 143)), (1, .int p1), (2, .int p2)] dX9_robot_15 rfl (by decide) rfl ?_
    refine G_iload_n (pc := 16) h.1 dX9_robot_16 rfl 3 rfl ?_
    refine G_ite (fun c6 => ?_) (fun c6 => ?_)
    · refine G_tabIn (z := 0) (off := 31) (tgt := 48) h.1 dX9_robot_17 c6 (by decide) (by decide) (by decide) rfl (by decide) ?_
      refine G_aload_n (pc := 48) h.1 dX9_robot_48 rfl 1 rfl ?_
      refine G_iload_n (pc := 49) h.1 dX9_robot_49 rfl 2 rfl ?_
      refine G_iconst (pc := 50) (v := (-1)) h.1 dX9_robot_50 (by decide) ?_
      refine G_iconst (pc := 51) (v := (0)) h.1 dX9_robot_51 (by decide) ?_
      refine G_iconst (pc := 52) (v := (1)) h.1 dX9_robot_52 (by decide) ?_
      refine G_callV (pc := 53) (As := [.int p1, .int (-1 : Int32), .int (0 : Int32), .int (1 : Int32)]) (rest := []) h.1 h.2.2.1 lk_X9_206 lN143 (eM143 _) rfl rfl (c_X9_bookings x.1.2.1 y hy p1 (-1 : Int32) (0 : Int32) (1 : Int32) M1) rfl rfl (Nat.le_of_ble_eq_true rfl) ⟨rfl, rfl, Nat.le_of_ble_eq_true rfl, Nat.le_of_ble_eq_true rfl⟩ dX9_robot_53 (fun r5 M4 => ?_)
      exact G_ret (pc := 56) h rfl dX9_robot_56
    refine G_ite (fun c9 => ?_) (fun c9 => ?_)
    · refine G_tabIn (z := 1) (off := 40) (tgt := 57) h.1 dX9_robot_17 c9 (by decide) (by decide) (by decide) rfl (by decide) ?_
      refine G_aload_n (pc := 57) h.1 dX9_robot_57 rfl 1 rfl ?_
      refine G_iload_n (pc := 58) h.1 dX9_robot_58 rfl 2 rfl ?_
      refine G_iconst (pc := 59) (v := (-1)) h.1 dX9_robot_59 (by decide) ?_
      refine G_iconst (pc := 60) (v := (2)) h.1 dX9_robot_60 (by decide) ?_
      refine G_iconst (pc := 61) (v := (2)) h.1 dX9_robot_61 (by decide) ?_
      refine G_callV (pc := 62) (As := [.int p1, .int (-1 : Int32), .int (2 : Int32), .int (2 : Int32)]) (rest := []) h.1 h.2.2.1 lk_X9_206 lN143 (eM143 _) rfl rfl (c_X9_bookings x.1.2.1 y hy p1 (-1 : Int32) (2 : Int32) (2 : Int32) M1) rfl rfl (Nat.le_of_ble_eq_true rfl) ⟨rfl, rfl, Nat.le_of_ble_eq_true rfl, Nat.le_of_ble_eq_true rfl⟩ dX9_robot_62 (fun r8 M7 => ?_)
      exact G_ret (pc := 65) h rfl dX9_robot_65
    refine G_ite (fun c12 => ?_) (fun c12 => ?_)
    · refine G_tabIn (z := 2) (off := 49) (tgt := 66) h.1 dX9_robot_17 c12 (by decide) (by decide) (by decide) rfl (by decide) ?_
      refine G_aload_n (pc := 66) h.1 dX9_robot_66 rfl 1 rfl ?_
      refine G_iload_n (pc := 67) h.1 dX9_robot_67 rfl 2 rfl ?_
      refine G_iload_n (pc := 68) h.1 dX9_robot_68 rfl 0 rfl ?_
      refine G_iload_n (pc := 69) h.1 dX9_robot_69 rfl 0 rfl ?_
      refine G_iconst (pc := 70) (v := (-1)) h.1 dX9_robot_70 (by decide) ?_
      refine G_callV (pc := 71) (As := [.int p1, .int v3, .int v3, .int (-1 : Int32)]) (rest := []) h.1 h.2.2.1 lk_X9_93 lN143 (eM143 _) rfl rfl (c_X9_keeper x.1.2.1 y hy p1 v3 v3 (-1 : Int32) M1) rfl rfl (Nat.le_of_ble_eq_true rfl) ⟨rfl, rfl, Nat.le_of_ble_eq_true rfl, Nat.le_of_ble_eq_true rfl⟩ dX9_robot_71 (fun r11 M10 => ?_)
      refine G_bipush (pc := 74) (v := (-5)) h.1 dX9_robot_74 (by decide) ?_
      refine G_icmp_ne (pc := 76) (tgt := 83) h.1 dX9_robot_76 (by decide) ?_ ?_
      · refine G_iconst (pc := 83) (v := (1)) h.1 dX9_robot_83 (by decide) ?_
        exact G_ret (pc := 84) h rfl dX9_robot_84
      · refine G_iconst (pc := 79) (v := (0)) h.1 dX9_robot_79 (by decide) ?_
        refine G_goto (pc := 80) (tgt := 84) h.1 dX9_robot_80 (by decide) ?_
        exact G_ret (pc := 84) h rfl dX9_robot_84
    refine G_ite (fun c18 => ?_) (fun c18 => ?_)
    · refine G_tabIn (z := 3) (off := 68) (tgt := 85) h.1 dX9_robot_17 c18 (by decide) (by decide) (by decide) rfl (by decide) ?_
      refine G_sub [1, 2, 0] rfl (gd_X9_robot_L85 hy h p1 _ (fun v16 M17 => ?_) fuelN v3 M1)
      refine G_iload_n (pc := 104) h.1 dX9_robot_104 rfl 0 rfl ?_
      exact G_ret (pc := 105) h rfl dX9_robot_105
    refine G_tabOut (tgt := 106) h.1 dX9_robot_17 (by have hz := And.intro trivial trivial; have z0 := g_ne c6 0 (by decide); have z1 := g_ne c9 1 (by decide); have z2 := g_ne c12 2 (by decide); have z3 := g_ne c18 3 (by decide); omega) (by decide) ?_
    refine G_bipush (pc := 106) (v := (-2)) h.1 dX9_robot_106 (by decide) ?_
    exact G_ret (pc := 108) h rfl dX9_robot_108
  · refine G_iconst (pc := 7) (v := (-1)) h.1 dX9_robot_7 (by decide) ?_
    exact G_ret (pc := 8) h rfl dX9_robot_8
theorem dX9_booking_0 : decode cX9_booking 0 = .ok (.aload_n 0, 1) := by decide +kernel
theorem dX9_booking_1 : decode cX9_booking 1 = .ok (.iload_n 1, 1) := by decide +kernel
theorem dX9_booking_2 : decode cX9_booking 2 = .ok (.invokevirtual 138, 3) := by decide +kernel
theorem dX9_booking_5 : decode cX9_booking 5 = .ok (.ifCond .eq 5, 3) := by decide +kernel
theorem dX9_booking_8 : decode cX9_booking 8 = .ok (.iconst (-1), 1) := by decide +kernel
theorem dX9_booking_9 : decode cX9_booking 9 = .ok (.ireturn, 1) := by decide +kernel
theorem dX9_booking_10 : decode cX9_booking 10 = .ok (.iload_n 2, 1) := by decide +kernel
theorem dX9_booking_11 : decode cX9_booking 11 = .ok (.iconst 0, 1) := by decide +kernel
theorem dX9_booking_12 : decode cX9_booking 12 = .ok (.iconst 4, 1) := by decide +kernel
theorem dX9_booking_13 : decode cX9_booking 13 = .ok (.invokestatic 52, 3) := by decide +kernel
theorem dX9_booking_16 : decode cX9_booking 16 = .ok (.ifCond .eq 10, 3) := by decide +kernel
theorem dX9_booking_19 : decode cX9_booking 19 = .ok (.aload_n 0, 1) := by decide +kernel
theorem dX9_booking_20 : decode cX9_booking 20 = .ok (.iload_n 1, 1) := by decide +kernel
theorem dX9_booking_21 : decode cX9_booking 21 = .ok (.iload_n 2, 1) := by decide +kernel
theorem dX9_booking_22 : decode cX9_booking 22 = .ok (.invokevirtual 56, 3) := by decide +kernel
theorem dX9_booking_25 : decode cX9_booking 25 = .ok (.ireturn, 1) := by decide +kernel
theorem dX9_booking_26 : decode cX9_booking 26 = .ok (.aload_n 0, 1) := by decide +kernel
theorem dX9_booking_27 : decode cX9_booking 27 = .ok (.invokevirtual 87, 3) := by decide +kernel
theorem dX9_booking_30 : decode cX9_booking 30 = .ok (.iload_n 2, 1) := by decide +kernel
theorem dX9_booking_31 : decode cX9_booking 31 = .ok (.tableswitch 77 5 7 #[25, 32, 53], 25) := by decide +kernel
theorem dX9_booking_56 : decode cX9_booking 56 = .ok (.aload_n 0, 1) := by decide +kernel
theorem dX9_booking_57 : decode cX9_booking 57 = .ok (.getfield 22, 3) := by decide +kernel
theorem dX9_booking_60 : decode cX9_booking 60 = .ok (.iload_n 1, 1) := by decide +kernel
theorem dX9_booking_61 : decode cX9_booking 61 = .ok (.iaload, 1) := by decide +kernel
theorem dX9_booking_62 : decode cX9_booking 62 = .ok (.ireturn, 1) := by decide +kernel
theorem dX9_booking_63 : decode cX9_booking 63 = .ok (.aload_n 0, 1) := by decide +kernel
theorem dX9_booking_64 : decode cX9_booking 64 = .ok (.getfield 25, 3) := by decide +kernel
theorem dX9_booking_67 : decode cX9_booking 67 = .ok (.iload_n 1, 1) := by decide +kernel
theorem dX9_booking_68 : decode cX9_booking 68 = .ok (.iaload, 1) := by decide +kernel
theorem dX9_booking_69 : decode cX9_booking 69 = .ok (.ifCond .le 12, 3) := by decide +kernel
theorem dX9_booking_72 : decode cX9_booking 72 = .ok (.aload_n 0, 1) := by decide +kernel
theorem dX9_booking_73 : decode cX9_booking 73 = .ok (.getfield 25, 3) := by decide +kernel
theorem dX9_booking_76 : decode cX9_booking 76 = .ok (.iload_n 1, 1) := by decide +kernel
theorem dX9_booking_77 : decode cX9_booking 77 = .ok (.iaload, 1) := by decide +kernel
theorem dX9_booking_78 : decode cX9_booking 78 = .ok (.goto 5, 3) := by decide +kernel
theorem dX9_booking_81 : decode cX9_booking 81 = .ok (.bipush (-5), 2) := by decide +kernel
theorem dX9_booking_83 : decode cX9_booking 83 = .ok (.ireturn, 1) := by decide +kernel
theorem dX9_booking_84 : decode cX9_booking 84 = .ok (.aload_n 0, 1) := by decide +kernel
theorem dX9_booking_85 : decode cX9_booking 85 = .ok (.iload_n 1, 1) := by decide +kernel
theorem dX9_booking_86 : decode cX9_booking 86 = .ok (.invokevirtual 141, 3) := by decide +kernel
theorem dX9_booking_89 : decode cX9_booking 89 = .ok (.ifCond .eq 16, 3) := by decide +kernel
theorem dX9_booking_92 : decode cX9_booking 92 = .ok (.sipush 10000, 3) := by decide +kernel
theorem dX9_booking_95 : decode cX9_booking 95 = .ok (.aload_n 0, 1) := by decide +kernel
theorem dX9_booking_96 : decode cX9_booking 96 = .ok (.getfield 28, 3) := by decide +kernel
theorem dX9_booking_99 : decode cX9_booking 99 = .ok (.iload_n 1, 1) := by decide +kernel
theorem dX9_booking_100 : decode cX9_booking 100 = .ok (.iaload, 1) := by decide +kernel
theorem dX9_booking_101 : decode cX9_booking 101 = .ok (.iadd, 1) := by decide +kernel
theorem dX9_booking_102 : decode cX9_booking 102 = .ok (.goto 5, 3) := by decide +kernel
theorem dX9_booking_105 : decode cX9_booking 105 = .ok (.bipush (-5), 2) := by decide +kernel
theorem dX9_booking_107 : decode cX9_booking 107 = .ok (.ireturn, 1) := by decide +kernel
theorem dX9_booking_108 : decode cX9_booking 108 = .ok (.bipush (-2), 2) := by decide +kernel
theorem dX9_booking_110 : decode cX9_booking 110 = .ok (.ireturn, 1) := by decide +kernel
abbrev rX9_booking : Room := { frames := 4, cells := 0, slots := 0, locals := 91 }
set_option maxRecDepth 20000 in
theorem c_X9_booking (l : Launch) (y : Cy) (hy : Inj y) (p1 : Int32) (p2 : Int32) (M : Mem) : CT l y yX9_booking cX9_booking 3 (some .int) rX9_booking [.ref (y.2.1 143), .int p1, .int p2] M (d_X9_booking p1 p2 M) := by
  refine CT_of (by decide) hy (Nat.le_of_ble_eq_true rfl) (fun x hxl h => ?_)
  show G x y 0 [(0, .ref (y.2.1 143)), (1, .int p1), (2, .int p2)] [] M _
  unfold d_X9_booking
  refine G_aload_n (pc := 0) h.1 dX9_booking_0 rfl 0 rfl ?_
  refine G_iload_n (pc := 1) h.1 dX9_booking_1 rfl 1 rfl ?_
  refine G_callV (pc := 2) (As := [.int p1]) (rest := []) h.1 h.2.2.1 lk_X9_138 lN143 (eM143 _) rfl rfl (c_X9_noBooking x.1.2.1 y hy p1 M) rfl rfl (Nat.le_of_ble_eq_true rfl) ⟨rfl, rfl, Nat.le_of_ble_eq_true rfl, Nat.le_of_ble_eq_true rfl⟩ dX9_booking_2 (fun r2 M1 => ?_)
  refine G_if_eq (pc := 5) (tgt := 10) h.1 dX9_booking_5 (by decide) ?_ ?_
  · refine G_iload_n (pc := 10) h.1 dX9_booking_10 rfl 2 rfl ?_
    refine G_iconst (pc := 11) (v := (0)) h.1 dX9_booking_11 (by decide) ?_
    refine G_iconst (pc := 12) (v := (4)) h.1 dX9_booking_12 (by decide) ?_
    refine G_callS (pc := 13) (As := [.int p2, .int (0 : Int32), .int (4 : Int32)]) (rest := []) h.1 h.2.2.1 lk_X9_52 (c_X9_in x.1.2.1 y hy p2 (0 : Int32) (4 : Int32) M1) rfl rfl (Nat.le_of_ble_eq_true rfl) ⟨rfl, rfl, Nat.le_of_ble_eq_true rfl, Nat.le_of_ble_eq_true rfl⟩ dX9_booking_13 (fun r4 M3 => ?_)
    refine G_if_eq (pc := 16) (tgt := 26) h.1 dX9_booking_16 (by decide) ?_ ?_
    · refine G_aload_n (pc := 26) h.1 dX9_booking_26 rfl 0 rfl ?_
      refine G_callVv (pc := 27) (As := []) (rest := []) h.1 h.2.2.1 lk_X9_87 lN143 (eM143 _) rfl rfl (c_X9_forecast x.1.2.1 y hy M3) rfl rfl (Nat.le_of_ble_eq_true rfl) ⟨rfl, rfl, Nat.le_of_ble_eq_true rfl, Nat.le_of_ble_eq_true rfl⟩ dX9_booking_27 (fun r6 M5 => ?_)
      refine G_iload_n (pc := 30) h.1 dX9_booking_30 rfl 2 rfl ?_
      refine G_ite (fun c7 => ?_) (fun c7 => ?_)
      · refine G_tabIn (z := 5) (off := 25) (tgt := 56) h.1 dX9_booking_31 c7 (by decide) (by decide) (by decide) rfl (by decide) ?_
        refine G_aload_n (pc := 56) h.1 dX9_booking_56 rfl 0 rfl ?_
        refine G_get (pc := 57) (v := .ref (y.2.1 148)) h.1 fl_X9_22 lN143 (eM143 _) rfl dX9_booking_57 ?_
        refine G_iload_n (pc := 60) h.1 dX9_booking_60 rfl 1 rfl ?_
        refine G_iald (pc := 61) h.1 lN148 (eM148 _) dX9_booking_61 ?_
        exact G_ret (pc := 62) h rfl dX9_booking_62
      refine G_ite (fun c8 => ?_) (fun c8 => ?_)
      · refine G_tabIn (z := 6) (off := 32) (tgt := 63) h.1 dX9_booking_31 c8 (by decide) (by decide) (by decide) rfl (by decide) ?_
        refine G_aload_n (pc := 63) h.1 dX9_booking_63 rfl 0 rfl ?_
        refine G_get (pc := 64) (v := .ref (y.2.1 149)) h.1 fl_X9_25 lN143 (eM143 _) rfl dX9_booking_64 ?_
        refine G_iload_n (pc := 67) h.1 dX9_booking_67 rfl 1 rfl ?_
        refine G_iald (pc := 68) h.1 lN149 (eM149 _) dX9_booking_68 ?_
        refine G_if_le (pc := 69) (tgt := 81) h.1 dX9_booking_69 (by decide) ?_ ?_
        · refine G_bipush (pc := 81) (v := (-5)) h.1 dX9_booking_81 (by decide) ?_
          exact G_ret (pc := 83) h rfl dX9_booking_83
        · refine G_aload_n (pc := 72) h.1 dX9_booking_72 rfl 0 rfl ?_
          refine G_get (pc := 73) (v := .ref (y.2.1 149)) h.1 fl_X9_25 lN143 (eM143 _) rfl dX9_booking_73 ?_
          refine G_iload_n (pc := 76) h.1 dX9_booking_76 rfl 1 rfl ?_
          refine G_iald (pc := 77) h.1 lN149 (eM149 _) dX9_booking_77 ?_
          refine G_goto (pc := 78) (tgt := 83) h.1 dX9_booking_78 (by decide) ?_
          exact G_ret (pc := 83) h rfl dX9_booking_83
      refine G_ite (fun c11 => ?_) (fun c11 => ?_)
      · refine G_tabIn (z := 7) (off := 53) (tgt := 84) h.1 dX9_booking_31 c11 (by decide) (by decide) (by decide) rfl (by decide) ?_
        refine G_aload_n (pc := 84) h.1 dX9_booking_84 rfl 0 rfl ?_
        refine G_iload_n (pc := 85) h.1 dX9_booking_85 rfl 1 rfl ?_
        refine G_callV (pc := 86) (As := [.int p1]) (rest := []) h.1 h.2.2.1 lk_X9_141 lN143 (eM143 _) rfl rfl (c_X9_isOpen x.1.2.1 y hy p1 M5) rfl rfl (Nat.le_of_ble_eq_true rfl) ⟨rfl, rfl, Nat.le_of_ble_eq_true rfl, Nat.le_of_ble_eq_true rfl⟩ dX9_booking_86 (fun r10 M9 => ?_)
        refine G_if_eq (pc := 89) (tgt := 105) h.1 dX9_booking_89 (by decide) ?_ ?_
        · refine G_bipush (pc := 105) (v := (-5)) h.1 dX9_booking_105 (by decide) ?_
          exact G_ret (pc := 107) h rfl dX9_booking_107
        · refine G_sipush (pc := 92) (v := (10000)) h.1 dX9_booking_92 (by decide) ?_
          refine G_aload_n (pc := 95) h.1 dX9_booking_95 rfl 0 rfl ?_
          refine G_get (pc := 96) (v := .ref (y.2.1 150)) h.1 fl_X9_28 lN143 (eM143 _) rfl dX9_booking_96 ?_
          refine G_iload_n (pc := 99) h.1 dX9_booking_99 rfl 1 rfl ?_
          refine G_iald (pc := 100) h.1 lN150 (eM150 _) dX9_booking_100 ?_
          refine G_iadd (pc := 101) h.1 dX9_booking_101 ?_
          refine G_goto (pc := 102) (tgt := 107) h.1 dX9_booking_102 (by decide) ?_
          exact G_ret (pc := 107) h rfl dX9_booking_107
      refine G_tabOut (tgt := 108) h.1 dX9_booking_31 (by have hz := And.intro trivial trivial; have z0 := g_ne c7 5 (by decide); have z1 := g_ne c8 6 (by decide); have z2 := g_ne c11 7 (by decide); omega) (by decide) ?_
      refine G_bipush (pc := 108) (v := (-2)) h.1 dX9_booking_108 (by decide) ?_
      exact G_ret (pc := 110) h rfl dX9_booking_110
    · refine G_aload_n (pc := 19) h.1 dX9_booking_19 rfl 0 rfl ?_
      refine G_iload_n (pc := 20) h.1 dX9_booking_20 rfl 1 rfl ?_
      refine G_iload_n (pc := 21) h.1 dX9_booking_21 rfl 2 rfl ?_
      refine G_callV (pc := 22) (As := [.int p1, .int p2]) (rest := []) h.1 h.2.2.1 lk_X9_56 lN143 (eM143 _) rfl rfl (c_X9_of x.1.2.1 y hy p1 p2 M3) rfl rfl (Nat.le_of_ble_eq_true rfl) ⟨rfl, rfl, Nat.le_of_ble_eq_true rfl, Nat.le_of_ble_eq_true rfl⟩ dX9_booking_22 (fun r13 M12 => ?_)
      exact G_ret (pc := 25) h rfl dX9_booking_25
  · refine G_iconst (pc := 8) (v := (-1)) h.1 dX9_booking_8 (by decide) ?_
    exact G_ret (pc := 9) h rfl dX9_booking_9
theorem dX9_wishTold_0 : decode cX9_wishTold 0 = .ok (.iload_n 1, 1) := by decide +kernel
theorem dX9_wishTold_1 : decode cX9_wishTold 1 = .ok (.iconst 0, 1) := by decide +kernel
theorem dX9_wishTold_2 : decode cX9_wishTold 2 = .ok (.aload_n 0, 1) := by decide +kernel
theorem dX9_wishTold_3 : decode cX9_wishTold 3 = .ok (.getfield 7, 3) := by decide +kernel
theorem dX9_wishTold_6 : decode cX9_wishTold 6 = .ok (.bipush 6, 2) := by decide +kernel
theorem dX9_wishTold_8 : decode cX9_wishTold 8 = .ok (.iaload, 1) := by decide +kernel
theorem dX9_wishTold_9 : decode cX9_wishTold 9 = .ok (.iconst 1, 1) := by decide +kernel
theorem dX9_wishTold_10 : decode cX9_wishTold 10 = .ok (.isub, 1) := by decide +kernel
theorem dX9_wishTold_11 : decode cX9_wishTold 11 = .ok (.invokestatic 52, 3) := by decide +kernel
theorem dX9_wishTold_14 : decode cX9_wishTold 14 = .ok (.ifCond .ne 5, 3) := by decide +kernel
theorem dX9_wishTold_17 : decode cX9_wishTold 17 = .ok (.iconst (-1), 1) := by decide +kernel
theorem dX9_wishTold_18 : decode cX9_wishTold 18 = .ok (.ireturn, 1) := by decide +kernel
theorem dX9_wishTold_19 : decode cX9_wishTold 19 = .ok (.iload_n 2, 1) := by decide +kernel
theorem dX9_wishTold_20 : decode cX9_wishTold 20 = .ok (.iconst 0, 1) := by decide +kernel
theorem dX9_wishTold_21 : decode cX9_wishTold 21 = .ok (.iconst 2, 1) := by decide +kernel
theorem dX9_wishTold_22 : decode cX9_wishTold 22 = .ok (.invokestatic 52, 3) := by decide +kernel
theorem dX9_wishTold_25 : decode cX9_wishTold 25 = .ok (.ifCond .eq 10, 3) := by decide +kernel
theorem dX9_wishTold_28 : decode cX9_wishTold 28 = .ok (.aload_n 0, 1) := by decide +kernel
theorem dX9_wishTold_29 : decode cX9_wishTold 29 = .ok (.iload_n 1, 1) := by decide +kernel
theorem dX9_wishTold_30 : decode cX9_wishTold 30 = .ok (.iload_n 2, 1) := by decide +kernel
theorem dX9_wishTold_31 : decode cX9_wishTold 31 = .ok (.invokevirtual 144, 3) := by decide +kernel
theorem dX9_wishTold_34 : decode cX9_wishTold 34 = .ok (.ireturn, 1) := by decide +kernel
theorem dX9_wishTold_35 : decode cX9_wishTold 35 = .ok (.iload_n 2, 1) := by decide +kernel
theorem dX9_wishTold_36 : decode cX9_wishTold 36 = .ok (.iconst 3, 1) := by decide +kernel
theorem dX9_wishTold_37 : decode cX9_wishTold 37 = .ok (.if_icmp .eq 6, 3) := by decide +kernel
theorem dX9_wishTold_40 : decode cX9_wishTold 40 = .ok (.bipush (-2), 2) := by decide +kernel
theorem dX9_wishTold_42 : decode cX9_wishTold 42 = .ok (.ireturn, 1) := by decide +kernel
theorem dX9_wishTold_43 : decode cX9_wishTold 43 = .ok (.aload_n 0, 1) := by decide +kernel
theorem dX9_wishTold_44 : decode cX9_wishTold 44 = .ok (.iconst (-1), 1) := by decide +kernel
theorem dX9_wishTold_45 : decode cX9_wishTold 45 = .ok (.invokevirtual 124, 3) := by decide +kernel
theorem dX9_wishTold_48 : decode cX9_wishTold 48 = .ok (.aload_n 0, 1) := by decide +kernel
theorem dX9_wishTold_49 : decode cX9_wishTold 49 = .ok (.aload_n 0, 1) := by decide +kernel
theorem dX9_wishTold_50 : decode cX9_wishTold 50 = .ok (.iload_n 1, 1) := by decide +kernel
theorem dX9_wishTold_51 : decode cX9_wishTold 51 = .ok (.iconst 0, 1) := by decide +kernel
theorem dX9_wishTold_52 : decode cX9_wishTold 52 = .ok (.invokevirtual 144, 3) := by decide +kernel
theorem dX9_wishTold_55 : decode cX9_wishTold 55 = .ok (.aload_n 0, 1) := by decide +kernel
theorem dX9_wishTold_56 : decode cX9_wishTold 56 = .ok (.iload_n 1, 1) := by decide +kernel
theorem dX9_wishTold_57 : decode cX9_wishTold 57 = .ok (.iconst 1, 1) := by decide +kernel
theorem dX9_wishTold_58 : decode cX9_wishTold 58 = .ok (.invokevirtual 144, 3) := by decide +kernel
theorem dX9_wishTold_61 : decode cX9_wishTold 61 = .ok (.aload_n 0, 1) := by decide +kernel
theorem dX9_wishTold_62 : decode cX9_wishTold 62 = .ok (.iload_n 1, 1) := by decide +kernel
theorem dX9_wishTold_63 : decode cX9_wishTold 63 = .ok (.iconst 2, 1) := by decide +kernel
theorem dX9_wishTold_64 : decode cX9_wishTold 64 = .ok (.invokevirtual 144, 3) := by decide +kernel
theorem dX9_wishTold_67 : decode cX9_wishTold 67 = .ok (.aload_n 0, 1) := by decide +kernel
theorem dX9_wishTold_68 : decode cX9_wishTold 68 = .ok (.iload_n 1, 1) := by decide +kernel
theorem dX9_wishTold_69 : decode cX9_wishTold 69 = .ok (.iconst 2, 1) := by decide +kernel
theorem dX9_wishTold_70 : decode cX9_wishTold 70 = .ok (.invokevirtual 144, 3) := by decide +kernel
theorem dX9_wishTold_73 : decode cX9_wishTold 73 = .ok (.bipush 20, 2) := by decide +kernel
theorem dX9_wishTold_75 : decode cX9_wishTold 75 = .ok (.iadd, 1) := by decide +kernel
theorem dX9_wishTold_76 : decode cX9_wishTold 76 = .ok (.iconst (-1), 1) := by decide +kernel
theorem dX9_wishTold_77 : decode cX9_wishTold 77 = .ok (.invokevirtual 134, 3) := by decide +kernel
theorem dX9_wishTold_80 : decode cX9_wishTold 80 = .ok (.ireturn, 1) := by decide +kernel
abbrev rX9_wishTold : Room := { frames := 6, cells := 0, slots := 0, locals := 145 }
set_option maxRecDepth 20000 in
theorem c_X9_wishTold (l : Launch) (y : Cy) (hy : Inj y) (p1 : Int32) (p2 : Int32) (M : Mem) : CT l y yX9_wishTold cX9_wishTold 3 (some .int) rX9_wishTold [.ref (y.2.1 143), .int p1, .int p2] M (d_X9_wishTold p1 p2 M) := by
  refine CT_of (by decide) hy (Nat.le_of_ble_eq_true rfl) (fun x hxl h => ?_)
  show G x y 0 [(0, .ref (y.2.1 143)), (1, .int p1), (2, .int p2)] [] M _
  unfold d_X9_wishTold
  refine G_iload_n (pc := 0) h.1 dX9_wishTold_0 rfl 1 rfl ?_
  refine G_iconst (pc := 1) (v := (0)) h.1 dX9_wishTold_1 (by decide) ?_
  refine G_aload_n (pc := 2) h.1 dX9_wishTold_2 rfl 0 rfl ?_
  refine G_get (pc := 3) (v := .ref (y.2.1 144)) h.1 fl_X9_7 lN143 (eM143 _) rfl dX9_wishTold_3 ?_
  refine G_bipush (pc := 6) (v := (6)) h.1 dX9_wishTold_6 (by decide) ?_
  refine G_iald (pc := 8) h.1 lN144 (eM144 _) dX9_wishTold_8 ?_
  refine G_iconst (pc := 9) (v := (1)) h.1 dX9_wishTold_9 (by decide) ?_
  refine G_isub (pc := 10) h.1 dX9_wishTold_10 ?_
  refine G_callS (pc := 11) (As := [.int p1, .int (0 : Int32), .int ((M 144 ((6 : Int32)).toNatClampNeg) - (1 : Int32))]) (rest := []) h.1 h.2.2.1 lk_X9_52 (c_X9_in x.1.2.1 y hy p1 (0 : Int32) ((M 144 ((6 : Int32)).toNatClampNeg) - (1 : Int32)) M) rfl rfl (Nat.le_of_ble_eq_true rfl) ⟨rfl, rfl, Nat.le_of_ble_eq_true rfl, Nat.le_of_ble_eq_true rfl⟩ dX9_wishTold_11 (fun r2 M1 => ?_)
  refine G_if_ne (pc := 14) (tgt := 19) h.1 dX9_wishTold_14 (by decide) ?_ ?_
  · refine G_iload_n (pc := 19) h.1 dX9_wishTold_19 rfl 2 rfl ?_
    refine G_iconst (pc := 20) (v := (0)) h.1 dX9_wishTold_20 (by decide) ?_
    refine G_iconst (pc := 21) (v := (2)) h.1 dX9_wishTold_21 (by decide) ?_
    refine G_callS (pc := 22) (As := [.int p2, .int (0 : Int32), .int (2 : Int32)]) (rest := []) h.1 h.2.2.1 lk_X9_52 (c_X9_in x.1.2.1 y hy p2 (0 : Int32) (2 : Int32) M1) rfl rfl (Nat.le_of_ble_eq_true rfl) ⟨rfl, rfl, Nat.le_of_ble_eq_true rfl, Nat.le_of_ble_eq_true rfl⟩ dX9_wishTold_22 (fun r4 M3 => ?_)
    refine G_if_eq (pc := 25) (tgt := 35) h.1 dX9_wishTold_25 (by decide) ?_ ?_
    · refine G_iload_n (pc := 35) h.1 dX9_wishTold_35 rfl 2 rfl ?_
      refine G_iconst (pc := 36) (v := (3)) h.1 dX9_wishTold_36 (by decide) ?_
      refine G_icmp_eq (pc := 37) (tgt := 43) h.1 dX9_wishTold_37 (by decide) ?_ ?_
      · refine G_aload_n (pc := 43) h.1 dX9_wishTold_43 rfl 0 rfl ?_
        refine G_iconst (pc := 44) (v := (-1)) h.1 dX9_wishTold_44 (by decide) ?_
        refine G_callVv (pc := 45) (As := [.int (-1 : Int32)]) (rest := []) h.1 h.2.2.1 lk_X9_124 lN143 (eM143 _) rfl rfl (c_X9_bases x.1.2.1 y hy (-1 : Int32) M3) rfl rfl (Nat.le_of_ble_eq_true rfl) ⟨rfl, rfl, Nat.le_of_ble_eq_true rfl, Nat.le_of_ble_eq_true rfl⟩ dX9_wishTold_45 (fun r6 M5 => ?_)
        refine G_aload_n (pc := 48) h.1 dX9_wishTold_48 rfl 0 rfl ?_
        refine G_aload_n (pc := 49) h.1 dX9_wishTold_49 rfl 0 rfl ?_
        refine G_iload_n (pc := 50) h.1 dX9_wishTold_50 rfl 1 rfl ?_
        refine G_iconst (pc := 51) (v := (0)) h.1 dX9_wishTold_51 (by decide) ?_
        refine G_callV (pc := 52) (As := [.int p1, .int (0 : Int32)]) (rest := [.ref (y.2.1 143)]) h.1 h.2.2.1 lk_X9_144 lN143 (eM143 _) rfl rfl (c_X9_ofWish x.1.2.1 y hy p1 (0 : Int32) M5) rfl rfl (Nat.le_of_ble_eq_true rfl) ⟨rfl, rfl, Nat.le_of_ble_eq_true rfl, Nat.le_of_ble_eq_true rfl⟩ dX9_wishTold_52 (fun r8 M7 => ?_)
        refine G_aload_n (pc := 55) h.1 dX9_wishTold_55 rfl 0 rfl ?_
        refine G_iload_n (pc := 56) h.1 dX9_wishTold_56 rfl 1 rfl ?_
        refine G_iconst (pc := 57) (v := (1)) h.1 dX9_wishTold_57 (by decide) ?_
        refine G_callV (pc := 58) (As := [.int p1, .int (1 : Int32)]) (rest := [.int r8, .ref (y.2.1 143)]) h.1 h.2.2.1 lk_X9_144 lN143 (eM143 _) rfl rfl (c_X9_ofWish x.1.2.1 y hy p1 (1 : Int32) M7) rfl rfl (Nat.le_of_ble_eq_true rfl) ⟨rfl, rfl, Nat.le_of_ble_eq_true rfl, Nat.le_of_ble_eq_true rfl⟩ dX9_wishTold_58 (fun r10 M9 => ?_)
        refine G_aload_n (pc := 61) h.1 dX9_wishTold_61 rfl 0 rfl ?_
        refine G_iload_n (pc := 62) h.1 dX9_wishTold_62 rfl 1 rfl ?_
        refine G_iconst (pc := 63) (v := (2)) h.1 dX9_wishTold_63 (by decide) ?_
        refine G_callV (pc := 64) (As := [.int p1, .int (2 : Int32)]) (rest := [.int r10, .int r8, .ref (y.2.1 143)]) h.1 h.2.2.1 lk_X9_144 lN143 (eM143 _) rfl rfl (c_X9_ofWish x.1.2.1 y hy p1 (2 : Int32) M9) rfl rfl (Nat.le_of_ble_eq_true rfl) ⟨rfl, rfl, Nat.le_of_ble_eq_true rfl, Nat.le_of_ble_eq_true rfl⟩ dX9_wishTold_64 (fun r12 M11 => ?_)
        refine G_aload_n (pc := 67) h.1 dX9_wishTold_67 rfl 0 rfl ?_
        refine G_iload_n (pc := 68) h.1 dX9_wishTold_68 rfl 1 rfl ?_
        refine G_iconst (pc := 69) (v := (2)) h.1 dX9_wishTold_69 (by decide) ?_
        refine G_callV (pc := 70) (As := [.int p1, .int (2 : Int32)]) (rest := [.int r12, .int r10, .int r8, .ref (y.2.1 143)]) h.1 h.2.2.1 lk_X9_144 lN143 (eM143 _) rfl rfl (c_X9_ofWish x.1.2.1 y hy p1 (2 : Int32) M11) rfl rfl (Nat.le_of_ble_eq_true rfl) ⟨rfl, rfl, Nat.le_of_ble_eq_true rfl, Nat.le_of_ble_eq_true rfl⟩ dX9_wishTold_70 (fun r14 M13 => ?_)
        refine G_bipush (pc := 73) (v := (20)) h.1 dX9_wishTold_73 (by decide) ?_
        refine G_iadd (pc := 75) h.1 dX9_wishTold_75 ?_
        refine G_iconst (pc := 76) (v := (-1)) h.1 dX9_wishTold_76 (by decide) ?_
        refine G_callV (pc := 77) (As := [.int r8, .int r10, .int r12, .int (r14 + (20 : Int32)), .int (-1 : Int32)]) (rest := []) h.1 h.2.2.1 lk_X9_134 lN143 (eM143 _) rfl rfl (c_X9_first x.1.2.1 y hy r8 r10 r12 (r14 + (20 : Int32)) (-1 : Int32) M13) rfl rfl (Nat.le_of_ble_eq_true rfl) ⟨rfl, rfl, Nat.le_of_ble_eq_true rfl, Nat.le_of_ble_eq_true rfl⟩ dX9_wishTold_77 (fun r16 M15 => ?_)
        exact G_ret (pc := 80) h rfl dX9_wishTold_80
      · refine G_bipush (pc := 40) (v := (-2)) h.1 dX9_wishTold_40 (by decide) ?_
        exact G_ret (pc := 42) h rfl dX9_wishTold_42
    · refine G_aload_n (pc := 28) h.1 dX9_wishTold_28 rfl 0 rfl ?_
      refine G_iload_n (pc := 29) h.1 dX9_wishTold_29 rfl 1 rfl ?_
      refine G_iload_n (pc := 30) h.1 dX9_wishTold_30 rfl 2 rfl ?_
      refine G_callV (pc := 31) (As := [.int p1, .int p2]) (rest := []) h.1 h.2.2.1 lk_X9_144 lN143 (eM143 _) rfl rfl (c_X9_ofWish x.1.2.1 y hy p1 p2 M3) rfl rfl (Nat.le_of_ble_eq_true rfl) ⟨rfl, rfl, Nat.le_of_ble_eq_true rfl, Nat.le_of_ble_eq_true rfl⟩ dX9_wishTold_31 (fun r18 M17 => ?_)
      exact G_ret (pc := 34) h rfl dX9_wishTold_34
  · refine G_iconst (pc := 17) (v := (-1)) h.1 dX9_wishTold_17 (by decide) ?_
    exact G_ret (pc := 18) h rfl dX9_wishTold_18
