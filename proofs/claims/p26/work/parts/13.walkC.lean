theorem dX8_wish_0 : decode cX8_wish 0 = .ok (.iload_n 1, 1) := by decide +kernel
theorem dX8_wish_1 : decode cX8_wish 1 = .ok (.invokestatic 154, 3) := by decide +kernel
theorem dX8_wish_4 : decode cX8_wish 4 = .ok (.ifCond .eq 17, 3) := by decide +kernel
theorem dX8_wish_7 : decode cX8_wish 7 = .ok (.aload_n 0, 1) := by decide +kernel
theorem dX8_wish_8 : decode cX8_wish 8 = .ok (.getfield 12, 3) := by decide +kernel
theorem dX8_wish_11 : decode cX8_wish 11 = .ok (.getfield 62, 3) := by decide +kernel
theorem dX8_wish_14 : decode cX8_wish 14 = .ok (.iload_n 2, 1) := by decide +kernel
theorem dX8_wish_15 : decode cX8_wish 15 = .ok (.invokevirtual 157, 3) := by decide +kernel
theorem dX8_wish_18 : decode cX8_wish 18 = .ok (.ifCond .ne 5, 3) := by decide +kernel
theorem dX8_wish_21 : decode cX8_wish 21 = .ok (.iconst (-1), 1) := by decide +kernel
theorem dX8_wish_22 : decode cX8_wish 22 = .ok (.ireturn, 1) := by decide +kernel
theorem dX8_wish_23 : decode cX8_wish 23 = .ok (.aload_n 0, 1) := by decide +kernel
theorem dX8_wish_24 : decode cX8_wish 24 = .ok (.getfield 12, 3) := by decide +kernel
theorem dX8_wish_27 : decode cX8_wish 27 = .ok (.iload_n 3, 1) := by decide +kernel
theorem dX8_wish_28 : decode cX8_wish 28 = .ok (.invokevirtual 128, 3) := by decide +kernel
theorem dX8_wish_31 : decode cX8_wish 31 = .ok (.ifCond .ne 6, 3) := by decide +kernel
theorem dX8_wish_34 : decode cX8_wish 34 = .ok (.bipush (-2), 2) := by decide +kernel
theorem dX8_wish_36 : decode cX8_wish 36 = .ok (.ireturn, 1) := by decide +kernel
theorem dX8_wish_37 : decode cX8_wish 37 = .ok (.aload_n 0, 1) := by decide +kernel
theorem dX8_wish_38 : decode cX8_wish 38 = .ok (.getfield 50, 3) := by decide +kernel
theorem dX8_wish_41 : decode cX8_wish 41 = .ok (.aload_n 0, 1) := by decide +kernel
theorem dX8_wish_42 : decode cX8_wish 42 = .ok (.getfield 12, 3) := by decide +kernel
theorem dX8_wish_45 : decode cX8_wish 45 = .ok (.aload_n 0, 1) := by decide +kernel
theorem dX8_wish_46 : decode cX8_wish 46 = .ok (.getfield 12, 3) := by decide +kernel
theorem dX8_wish_49 : decode cX8_wish 49 = .ok (.getfield 106, 3) := by decide +kernel
theorem dX8_wish_52 : decode cX8_wish 52 = .ok (.getfield 158, 3) := by decide +kernel
theorem dX8_wish_55 : decode cX8_wish 55 = .ok (.iload_n 1, 1) := by decide +kernel
theorem dX8_wish_56 : decode cX8_wish 56 = .ok (.iload_n 2, 1) := by decide +kernel
theorem dX8_wish_57 : decode cX8_wish 57 = .ok (.iload_n 3, 1) := by decide +kernel
theorem dX8_wish_58 : decode cX8_wish 58 = .ok (.iload_n 3, 1) := by decide +kernel
theorem dX8_wish_59 : decode cX8_wish 59 = .ok (.bipush 20, 2) := by decide +kernel
theorem dX8_wish_61 : decode cX8_wish 61 = .ok (.iadd, 1) := by decide +kernel
theorem dX8_wish_62 : decode cX8_wish 62 = .ok (.invokevirtual 159, 3) := by decide +kernel
theorem dX8_wish_65 : decode cX8_wish 65 = .ok (.istore 4, 2) := by decide +kernel
theorem dX8_wish_67 : decode cX8_wish 67 = .ok (.iload 4, 2) := by decide +kernel
theorem dX8_wish_69 : decode cX8_wish 69 = .ok (.bipush (-5), 2) := by decide +kernel
theorem dX8_wish_71 : decode cX8_wish 71 = .ok (.if_icmp .eq 57, 3) := by decide +kernel
theorem dX8_wish_74 : decode cX8_wish 74 = .ok (.aload_n 0, 1) := by decide +kernel
theorem dX8_wish_75 : decode cX8_wish 75 = .ok (.getfield 12, 3) := by decide +kernel
theorem dX8_wish_78 : decode cX8_wish 78 = .ok (.getfield 106, 3) := by decide +kernel
theorem dX8_wish_81 : decode cX8_wish 81 = .ok (.getfield 158, 3) := by decide +kernel
theorem dX8_wish_84 : decode cX8_wish 84 = .ok (.bipush 60, 2) := by decide +kernel
theorem dX8_wish_86 : decode cX8_wish 86 = .ok (.if_icmp .ge 42, 3) := by decide +kernel
theorem dX8_wish_89 : decode cX8_wish 89 = .ok (.aload_n 0, 1) := by decide +kernel
theorem dX8_wish_90 : decode cX8_wish 90 = .ok (.getfield 29, 3) := by decide +kernel
theorem dX8_wish_93 : decode cX8_wish 93 = .ok (.aload_n 0, 1) := by decide +kernel
theorem dX8_wish_94 : decode cX8_wish 94 = .ok (.getfield 12, 3) := by decide +kernel
theorem dX8_wish_97 : decode cX8_wish 97 = .ok (.invokevirtual 72, 3) := by decide +kernel
theorem dX8_wish_100 : decode cX8_wish 100 = .ok (.aload_n 0, 1) := by decide +kernel
theorem dX8_wish_101 : decode cX8_wish 101 = .ok (.getfield 12, 3) := by decide +kernel
theorem dX8_wish_104 : decode cX8_wish 104 = .ok (.dup, 1) := by decide +kernel
theorem dX8_wish_105 : decode cX8_wish 105 = .ok (.getfield 163, 3) := by decide +kernel
theorem dX8_wish_108 : decode cX8_wish 108 = .ok (.iconst 1, 1) := by decide +kernel
theorem dX8_wish_109 : decode cX8_wish 109 = .ok (.iadd, 1) := by decide +kernel
theorem dX8_wish_110 : decode cX8_wish 110 = .ok (.putfield 163, 3) := by decide +kernel
theorem dX8_wish_113 : decode cX8_wish 113 = .ok (.aload_n 0, 1) := by decide +kernel
theorem dX8_wish_114 : decode cX8_wish 114 = .ok (.getfield 12, 3) := by decide +kernel
theorem dX8_wish_117 : decode cX8_wish 117 = .ok (.getfield 106, 3) := by decide +kernel
theorem dX8_wish_120 : decode cX8_wish 120 = .ok (.iload_n 1, 1) := by decide +kernel
theorem dX8_wish_121 : decode cX8_wish 121 = .ok (.iload_n 2, 1) := by decide +kernel
theorem dX8_wish_122 : decode cX8_wish 122 = .ok (.iload 4, 2) := by decide +kernel
theorem dX8_wish_124 : decode cX8_wish 124 = .ok (.invokevirtual 110, 3) := by decide +kernel
theorem dX8_wish_127 : decode cX8_wish 127 = .ok (.ireturn, 1) := by decide +kernel
theorem dX8_wish_128 : decode cX8_wish 128 = .ok (.aload_n 0, 1) := by decide +kernel
theorem dX8_wish_129 : decode cX8_wish 129 = .ok (.getfield 12, 3) := by decide +kernel
theorem dX8_wish_132 : decode cX8_wish 132 = .ok (.getfield 166, 3) := by decide +kernel
theorem dX8_wish_135 : decode cX8_wish 135 = .ok (.getfield 170, 3) := by decide +kernel
theorem dX8_wish_138 : decode cX8_wish 138 = .ok (.bipush 8, 2) := by decide +kernel
theorem dX8_wish_140 : decode cX8_wish 140 = .ok (.if_icmp .lt 6, 3) := by decide +kernel
theorem dX8_wish_143 : decode cX8_wish 143 = .ok (.bipush (-3), 2) := by decide +kernel
theorem dX8_wish_145 : decode cX8_wish 145 = .ok (.ireturn, 1) := by decide +kernel
theorem dX8_wish_146 : decode cX8_wish 146 = .ok (.aload_n 0, 1) := by decide +kernel
theorem dX8_wish_147 : decode cX8_wish 147 = .ok (.getfield 29, 3) := by decide +kernel
theorem dX8_wish_150 : decode cX8_wish 150 = .ok (.aload_n 0, 1) := by decide +kernel
theorem dX8_wish_151 : decode cX8_wish 151 = .ok (.getfield 12, 3) := by decide +kernel
theorem dX8_wish_154 : decode cX8_wish 154 = .ok (.invokevirtual 72, 3) := by decide +kernel
theorem dX8_wish_157 : decode cX8_wish 157 = .ok (.sipush 1000, 3) := by decide +kernel
theorem dX8_wish_160 : decode cX8_wish 160 = .ok (.aload_n 0, 1) := by decide +kernel
theorem dX8_wish_161 : decode cX8_wish 161 = .ok (.getfield 12, 3) := by decide +kernel
theorem dX8_wish_164 : decode cX8_wish 164 = .ok (.getfield 166, 3) := by decide +kernel
theorem dX8_wish_167 : decode cX8_wish 167 = .ok (.iload_n 1, 1) := by decide +kernel
theorem dX8_wish_168 : decode cX8_wish 168 = .ok (.iload_n 2, 1) := by decide +kernel
theorem dX8_wish_169 : decode cX8_wish 169 = .ok (.iload_n 3, 1) := by decide +kernel
theorem dX8_wish_170 : decode cX8_wish 170 = .ok (.invokevirtual 173, 3) := by decide +kernel
theorem dX8_wish_173 : decode cX8_wish 173 = .ok (.iadd, 1) := by decide +kernel
theorem dX8_wish_174 : decode cX8_wish 174 = .ok (.ireturn, 1) := by decide +kernel
abbrev rX8_wish : Room := { frames := 5, cells := 0, slots := 0, locals := 126 }
set_option maxRecDepth 20000 in
theorem gd_X8_wish_B128 {x : Cx} {y : Cy} (hy : Inj y) (h : OkM x y cX8_wish RX8 5 (some .int) rX8_wish) (a1 : Int32) (a2 : Int32) (a3 : Int32) (M : Mem) : G x y 128 [(0, .ref (y.2.1 141)), (1, .int a1), (2, .int a2), (3, .int a3)] [] M (d_X8_wish_B128 a1 a2 a3 M) := by
  unfold d_X8_wish_B128
  refine G_aload_n (pc := 128) h.1 dX8_wish_128 rfl 0 rfl ?_
  refine G_get (pc := 129) (v := .ref (y.2.1 (sI 0 0))) h.1 fl_X8_12 lN141 (eM141 _) rfl dX8_wish_129 ?_
  refine G_get (pc := 132) (v := .ref (y.2.1 (sI 0 12))) h.1 fl_X8_166 (ids_s h7_0 0 (by decide)) (eS0 h7_0 _) rfl dX8_wish_132 ?_
  refine G_get (pc := 135) (v := .int (M (sI 0 12) 0)) h.1 fl_X8_170 (ids_s h7_0 12 (by decide)) (eS12 h7_0 _) rfl dX8_wish_135 ?_
  refine G_bipush (pc := 138) (v := (8)) h.1 dX8_wish_138 (by decide) ?_
  refine G_icmp_lt (pc := 140) (tgt := 146) h.1 dX8_wish_140 (by decide) ?_ ?_
  · refine G_aload_n (pc := 146) h.1 dX8_wish_146 rfl 0 rfl ?_
    refine G_get (pc := 147) (v := .ref (y.2.1 134)) h.1 fl_X8_29 lN141 (eM141 _) rfl dX8_wish_147 ?_
    refine G_aload_n (pc := 150) h.1 dX8_wish_150 rfl 0 rfl ?_
    refine G_get (pc := 151) (v := .ref (y.2.1 (sI 0 0))) h.1 fl_X8_12 lN141 (eM141 _) rfl dX8_wish_151 ?_
    refine G_callVv (pc := 154) (As := [.ref (y.2.1 (sI 0 0))]) (rest := []) h.1 h.2.2.1 lk_X8_72 lN134 (eM134 _) rfl rfl (c_X2_push x.1.2.1 y hy 0 h7_0 M) rfl rfl (Nat.le_of_ble_eq_true rfl) ⟨rfl, rfl, Nat.le_of_ble_eq_true rfl, Nat.le_of_ble_eq_true rfl⟩ dX8_wish_154 (fun r10 M9 => ?_)
    refine G_sipush (pc := 157) (v := (1000)) h.1 dX8_wish_157 (by decide) ?_
    refine G_aload_n (pc := 160) h.1 dX8_wish_160 rfl 0 rfl ?_
    refine G_get (pc := 161) (v := .ref (y.2.1 (sI 0 0))) h.1 fl_X8_12 lN141 (eM141 _) rfl dX8_wish_161 ?_
    refine G_get (pc := 164) (v := .ref (y.2.1 (sI 0 12))) h.1 fl_X8_166 (ids_s h7_0 0 (by decide)) (eS0 h7_0 _) rfl dX8_wish_164 ?_
    refine G_iload_n (pc := 167) h.1 dX8_wish_167 rfl 1 rfl ?_
    refine G_iload_n (pc := 168) h.1 dX8_wish_168 rfl 2 rfl ?_
    refine G_iload_n (pc := 169) h.1 dX8_wish_169 rfl 3 rfl ?_
    refine G_callV (pc := 170) (As := [.int a1, .int a2, .int a3]) (rest := [.int (1000 : Int32)]) h.1 h.2.2.1 lk_X8_173 (ids_s h7_0 12 (by decide)) (eS12 h7_0 _) rfl rfl (c_X7_append x.1.2.1 y hy 0 h7_0 a1 a2 a3 M9) rfl rfl (Nat.le_of_ble_eq_true rfl) ⟨rfl, rfl, Nat.le_of_ble_eq_true rfl, Nat.le_of_ble_eq_true rfl⟩ dX8_wish_170 (fun r12 M11 => ?_)
    refine G_iadd (pc := 173) h.1 dX8_wish_173 ?_
    exact G_ret (pc := 174) h rfl dX8_wish_174
  · refine G_bipush (pc := 143) (v := (-3)) h.1 dX8_wish_143 (by decide) ?_
    exact G_ret (pc := 145) h rfl dX8_wish_145
set_option maxRecDepth 20000 in
theorem c_X8_wish (l : Launch) (y : Cy) (hy : Inj y) (p1 : Int32) (p2 : Int32) (p3 : Int32) (M : Mem) : CT l y yX8_wish cX8_wish 5 (some .int) rX8_wish [.ref (y.2.1 141), .int p1, .int p2, .int p3] M (d_X8_wish p1 p2 p3 M) := by
  refine CT_of (by decide) hy (Nat.le_of_ble_eq_true rfl) (fun x hxl h => ?_)
  show G x y 0 [(0, .ref (y.2.1 141)), (1, .int p1), (2, .int p2), (3, .int p3)] [] M _
  unfold d_X8_wish
  refine G_iload_n (pc := 0) h.1 dX8_wish_0 rfl 1 rfl ?_
  refine G_callS (pc := 1) (As := [.int p1]) (rest := []) h.1 h.2.2.1 lk_X8_154 (c_X8_isRobot x.1.2.1 y hy p1 M) rfl rfl (Nat.le_of_ble_eq_true rfl) ⟨rfl, rfl, Nat.le_of_ble_eq_true rfl, Nat.le_of_ble_eq_true rfl⟩ dX8_wish_1 (fun r2 M1 => ?_)
  refine G_if_eq (pc := 4) (tgt := 21) h.1 dX8_wish_4 (by decide) ?_ ?_
  · refine G_iconst (pc := 21) (v := (-1)) h.1 dX8_wish_21 (by decide) ?_
    exact G_ret (pc := 22) h rfl dX8_wish_22
  · refine G_aload_n (pc := 7) h.1 dX8_wish_7 rfl 0 rfl ?_
    refine G_get (pc := 8) (v := .ref (y.2.1 (sI 0 0))) h.1 fl_X8_12 lN141 (eM141 _) rfl dX8_wish_8 ?_
    refine G_get (pc := 11) (v := .ref (y.2.1 (sI 0 1))) h.1 fl_X8_62 (ids_s h7_0 0 (by decide)) (eS0 h7_0 _) rfl dX8_wish_11 ?_
    refine G_iload_n (pc := 14) h.1 dX8_wish_14 rfl 2 rfl ?_
    refine G_callV (pc := 15) (As := [.int p2]) (rest := []) h.1 h.2.2.1 lk_X8_157 (ids_s h7_0 1 (by decide)) (eS1 h7_0 _) rfl rfl (c_X4_has x.1.2.1 y hy 0 h7_0 p2 M1) rfl rfl (Nat.le_of_ble_eq_true rfl) ⟨rfl, rfl, Nat.le_of_ble_eq_true rfl, Nat.le_of_ble_eq_true rfl⟩ dX8_wish_15 (fun r4 M3 => ?_)
    refine G_if_ne (pc := 18) (tgt := 23) h.1 dX8_wish_18 (by decide) ?_ ?_
    · refine G_aload_n (pc := 23) h.1 dX8_wish_23 rfl 0 rfl ?_
      refine G_get (pc := 24) (v := .ref (y.2.1 (sI 0 0))) h.1 fl_X8_12 lN141 (eM141 _) rfl dX8_wish_24 ?_
      refine G_iload_n (pc := 27) h.1 dX8_wish_27 rfl 3 rfl ?_
      refine G_callV (pc := 28) (As := [.int p3]) (rest := []) h.1 h.2.2.1 lk_X8_128 (ids_s h7_0 0 (by decide)) (eS0 h7_0 _) rfl rfl (c_X5_canStart x.1.2.1 y hy 0 h7_0 p3 M3) rfl rfl (Nat.le_of_ble_eq_true rfl) ⟨rfl, rfl, Nat.le_of_ble_eq_true rfl, Nat.le_of_ble_eq_true rfl⟩ dX8_wish_28 (fun r6 M5 => ?_)
      refine G_if_ne (pc := 31) (tgt := 37) h.1 dX8_wish_31 (by decide) ?_ ?_
      · refine G_aload_n (pc := 37) h.1 dX8_wish_37 rfl 0 rfl ?_
        refine G_get (pc := 38) (v := .ref (y.2.1 132)) h.1 fl_X8_50 lN141 (eM141 _) rfl dX8_wish_38 ?_
        refine G_aload_n (pc := 41) h.1 dX8_wish_41 rfl 0 rfl ?_
        refine G_get (pc := 42) (v := .ref (y.2.1 (sI 0 0))) h.1 fl_X8_12 lN141 (eM141 _) rfl dX8_wish_42 ?_
        refine G_aload_n (pc := 45) h.1 dX8_wish_45 rfl 0 rfl ?_
        refine G_get (pc := 46) (v := .ref (y.2.1 (sI 0 0))) h.1 fl_X8_12 lN141 (eM141 _) rfl dX8_wish_46 ?_
        refine G_get (pc := 49) (v := .ref (y.2.1 (sI 0 6))) h.1 fl_X8_106 (ids_s h7_0 0 (by decide)) (eS0 h7_0 _) rfl dX8_wish_49 ?_
        refine G_get (pc := 52) (v := .int (M5 (sI 0 6) 0)) h.1 fl_X8_158 (ids_s h7_0 6 (by decide)) (eS6 h7_0 _) rfl dX8_wish_52 ?_
        refine G_iload_n (pc := 55) h.1 dX8_wish_55 rfl 1 rfl ?_
        refine G_iload_n (pc := 56) h.1 dX8_wish_56 rfl 2 rfl ?_
        refine G_iload_n (pc := 57) h.1 dX8_wish_57 rfl 3 rfl ?_
        refine G_iload_n (pc := 58) h.1 dX8_wish_58 rfl 3 rfl ?_
        refine G_bipush (pc := 59) (v := (20)) h.1 dX8_wish_59 (by decide) ?_
        refine G_iadd (pc := 61) h.1 dX8_wish_61 ?_
        refine G_callV (pc := 62) (As := [.ref (y.2.1 (sI 0 0)), .int (M5 (sI 0 6) 0), .int p1, .int p2, .int p3, .int (p3 + (20 : Int32))]) (rest := []) h.1 h.2.2.1 lk_X8_159 lN132 (eM132 _) rfl rfl (c_X3_firstFit x.1.2.1 y hy 0 h7_0 (M5 (sI 0 6) 0) p1 p2 p3 (p3 + (20 : Int32)) M5) rfl rfl (Nat.le_of_ble_eq_true rfl) ⟨rfl, rfl, Nat.le_of_ble_eq_true rfl, Nat.le_of_ble_eq_true rfl⟩ dX8_wish_62 (fun r8 M7 => ?_)
        refine G_istore (pc := 65) h.1 h.2.1 [(4, .int r8), (0, .ref (y.2.1 141)), (1, .int p1), (2, .int p2), (3, .int p3)] dX8_wish_65 (by decide) rfl ?_
        refine G_iload (pc := 67) h.1 dX8_wish_67 0 rfl ?_
        refine G_bipush (pc := 69) (v := (-5)) h.1 dX8_wish_69 (by decide) ?_
        refine G_icmp_eq (pc := 71) (tgt := 128) h.1 dX8_wish_71 (by decide) ?_ ?_
        · exact G_sub [1, 2, 3, 4] rfl (gd_X8_wish_B128 hy h p1 p2 p3 M7)
        · refine G_aload_n (pc := 74) h.1 dX8_wish_74 rfl 1 rfl ?_
          refine G_get (pc := 75) (v := .ref (y.2.1 (sI 0 0))) h.1 fl_X8_12 lN141 (eM141 _) rfl dX8_wish_75 ?_
          refine G_get (pc := 78) (v := .ref (y.2.1 (sI 0 6))) h.1 fl_X8_106 (ids_s h7_0 0 (by decide)) (eS0 h7_0 _) rfl dX8_wish_78 ?_
          refine G_get (pc := 81) (v := .int (M7 (sI 0 6) 0)) h.1 fl_X8_158 (ids_s h7_0 6 (by decide)) (eS6 h7_0 _) rfl dX8_wish_81 ?_
          refine G_bipush (pc := 84) (v := (60)) h.1 dX8_wish_84 (by decide) ?_
          refine G_icmp_ge (pc := 86) (tgt := 128) h.1 dX8_wish_86 (by decide) ?_ ?_
          · exact G_sub [1, 2, 3, 4] rfl (gd_X8_wish_B128 hy h p1 p2 p3 M7)
          · refine G_aload_n (pc := 89) h.1 dX8_wish_89 rfl 1 rfl ?_
            refine G_get (pc := 90) (v := .ref (y.2.1 134)) h.1 fl_X8_29 lN141 (eM141 _) rfl dX8_wish_90 ?_
            refine G_aload_n (pc := 93) h.1 dX8_wish_93 rfl 1 rfl ?_
            refine G_get (pc := 94) (v := .ref (y.2.1 (sI 0 0))) h.1 fl_X8_12 lN141 (eM141 _) rfl dX8_wish_94 ?_
            refine G_callVv (pc := 97) (As := [.ref (y.2.1 (sI 0 0))]) (rest := []) h.1 h.2.2.1 lk_X8_72 lN134 (eM134 _) rfl rfl (c_X2_push x.1.2.1 y hy 0 h7_0 M7) rfl rfl (Nat.le_of_ble_eq_true rfl) ⟨rfl, rfl, Nat.le_of_ble_eq_true rfl, Nat.le_of_ble_eq_true rfl⟩ dX8_wish_97 (fun r14 M13 => ?_)
            refine G_aload_n (pc := 100) h.1 dX8_wish_100 rfl 1 rfl ?_
            refine G_get (pc := 101) (v := .ref (y.2.1 (sI 0 0))) h.1 fl_X8_12 lN141 (eM141 _) rfl dX8_wish_101 ?_
            refine G_dup (pc := 104) h.1 dX8_wish_104 rfl ?_
            refine G_get (pc := 105) (v := .int (M13 (sI 0 0) 4)) h.1 fl_X8_163 (ids_s h7_0 0 (by decide)) (eS0 h7_0 _) rfl dX8_wish_105 ?_
            refine G_iconst (pc := 108) (v := (1)) h.1 dX8_wish_108 (by decide) ?_
            refine G_iadd (pc := 109) h.1 dX8_wish_109 ?_
            refine G_put (pc := 110) h.1 fp_X8_163 (ids_s h7_0 0 (by decide)) (fun m => eS0 h7_0 m) (fun _ => rfl) (fun _ => Nat.le_of_ble_eq_true rfl) rfl rfl dX8_wish_110 (fun M15 => ?_)
            refine G_aload_n (pc := 113) h.1 dX8_wish_113 rfl 1 rfl ?_
            refine G_get (pc := 114) (v := .ref (y.2.1 (sI 0 0))) h.1 fl_X8_12 lN141 (eM141 _) rfl dX8_wish_114 ?_
            refine G_get (pc := 117) (v := .ref (y.2.1 (sI 0 6))) h.1 fl_X8_106 (ids_s h7_0 0 (by decide)) (eS0 h7_0 _) rfl dX8_wish_117 ?_
            refine G_iload_n (pc := 120) h.1 dX8_wish_120 rfl 2 rfl ?_
            refine G_iload_n (pc := 121) h.1 dX8_wish_121 rfl 3 rfl ?_
            refine G_iload (pc := 122) h.1 dX8_wish_122 0 rfl ?_
            refine G_callV (pc := 124) (As := [.int p1, .int p2, .int r8]) (rest := []) h.1 h.2.2.1 lk_X8_110 (ids_s h7_0 6 (by decide)) (eS6 h7_0 _) rfl rfl (c_X0_append x.1.2.1 y hy 0 h7_0 p1 p2 r8 M15) rfl rfl (Nat.le_of_ble_eq_true rfl) ⟨rfl, rfl, Nat.le_of_ble_eq_true rfl, Nat.le_of_ble_eq_true rfl⟩ dX8_wish_124 (fun r17 M16 => ?_)
            exact G_ret (pc := 127) h rfl dX8_wish_127
      · refine G_bipush (pc := 34) (v := (-2)) h.1 dX8_wish_34 (by decide) ?_
        exact G_ret (pc := 36) h rfl dX8_wish_36
    · refine G_iconst (pc := 21) (v := (-1)) h.1 dX8_wish_21 (by decide) ?_
      exact G_ret (pc := 22) h rfl dX8_wish_22
theorem dX8_unwish_0 : decode cX8_unwish 0 = .ok (.aload_n 0, 1) := by decide +kernel
theorem dX8_unwish_1 : decode cX8_unwish 1 = .ok (.getfield 12, 3) := by decide +kernel
theorem dX8_unwish_4 : decode cX8_unwish 4 = .ok (.getfield 166, 3) := by decide +kernel
theorem dX8_unwish_7 : decode cX8_unwish 7 = .ok (.iload_n 1, 1) := by decide +kernel
theorem dX8_unwish_8 : decode cX8_unwish 8 = .ok (.invokevirtual 174, 3) := by decide +kernel
theorem dX8_unwish_11 : decode cX8_unwish 11 = .ok (.ifCond .ne 5, 3) := by decide +kernel
theorem dX8_unwish_14 : decode cX8_unwish 14 = .ok (.iconst (-1), 1) := by decide +kernel
theorem dX8_unwish_15 : decode cX8_unwish 15 = .ok (.ireturn, 1) := by decide +kernel
theorem dX8_unwish_16 : decode cX8_unwish 16 = .ok (.aload_n 0, 1) := by decide +kernel
theorem dX8_unwish_17 : decode cX8_unwish 17 = .ok (.getfield 29, 3) := by decide +kernel
theorem dX8_unwish_20 : decode cX8_unwish 20 = .ok (.aload_n 0, 1) := by decide +kernel
theorem dX8_unwish_21 : decode cX8_unwish 21 = .ok (.getfield 12, 3) := by decide +kernel
theorem dX8_unwish_24 : decode cX8_unwish 24 = .ok (.invokevirtual 72, 3) := by decide +kernel
theorem dX8_unwish_27 : decode cX8_unwish 27 = .ok (.aload_n 0, 1) := by decide +kernel
theorem dX8_unwish_28 : decode cX8_unwish 28 = .ok (.getfield 12, 3) := by decide +kernel
theorem dX8_unwish_31 : decode cX8_unwish 31 = .ok (.getfield 166, 3) := by decide +kernel
theorem dX8_unwish_34 : decode cX8_unwish 34 = .ok (.getfield 175, 3) := by decide +kernel
theorem dX8_unwish_37 : decode cX8_unwish 37 = .ok (.iload_n 1, 1) := by decide +kernel
theorem dX8_unwish_38 : decode cX8_unwish 38 = .ok (.iaload, 1) := by decide +kernel
theorem dX8_unwish_39 : decode cX8_unwish 39 = .ok (.istore_n 2, 1) := by decide +kernel
theorem dX8_unwish_40 : decode cX8_unwish 40 = .ok (.aload_n 0, 1) := by decide +kernel
theorem dX8_unwish_41 : decode cX8_unwish 41 = .ok (.getfield 12, 3) := by decide +kernel
theorem dX8_unwish_44 : decode cX8_unwish 44 = .ok (.getfield 166, 3) := by decide +kernel
theorem dX8_unwish_47 : decode cX8_unwish 47 = .ok (.iload_n 1, 1) := by decide +kernel
theorem dX8_unwish_48 : decode cX8_unwish 48 = .ok (.invokevirtual 176, 3) := by decide +kernel
theorem dX8_unwish_51 : decode cX8_unwish 51 = .ok (.iload_n 2, 1) := by decide +kernel
theorem dX8_unwish_52 : decode cX8_unwish 52 = .ok (.ireturn, 1) := by decide +kernel
abbrev rX8_unwish : Room := { frames := 4, cells := 0, slots := 0, locals := 82 }
set_option maxRecDepth 20000 in
theorem c_X8_unwish (l : Launch) (y : Cy) (hy : Inj y) (p1 : Int32) (M : Mem) : CT l y yX8_unwish cX8_unwish 3 (some .int) rX8_unwish [.ref (y.2.1 141), .int p1] M (d_X8_unwish p1 M) := by
  refine CT_of (by decide) hy (Nat.le_of_ble_eq_true rfl) (fun x hxl h => ?_)
  show G x y 0 [(0, .ref (y.2.1 141)), (1, .int p1)] [] M _
  unfold d_X8_unwish
  refine G_aload_n (pc := 0) h.1 dX8_unwish_0 rfl 0 rfl ?_
  refine G_get (pc := 1) (v := .ref (y.2.1 (sI 0 0))) h.1 fl_X8_12 lN141 (eM141 _) rfl dX8_unwish_1 ?_
  refine G_get (pc := 4) (v := .ref (y.2.1 (sI 0 12))) h.1 fl_X8_166 (ids_s h7_0 0 (by decide)) (eS0 h7_0 _) rfl dX8_unwish_4 ?_
  refine G_iload_n (pc := 7) h.1 dX8_unwish_7 rfl 1 rfl ?_
  refine G_callV (pc := 8) (As := [.int p1]) (rest := []) h.1 h.2.2.1 lk_X8_174 (ids_s h7_0 12 (by decide)) (eS12 h7_0 _) rfl rfl (c_X7_has x.1.2.1 y hy 0 h7_0 p1 M) rfl rfl (Nat.le_of_ble_eq_true rfl) ⟨rfl, rfl, Nat.le_of_ble_eq_true rfl, Nat.le_of_ble_eq_true rfl⟩ dX8_unwish_8 (fun r2 M1 => ?_)
  refine G_if_ne (pc := 11) (tgt := 16) h.1 dX8_unwish_11 (by decide) ?_ ?_
  · refine G_aload_n (pc := 16) h.1 dX8_unwish_16 rfl 0 rfl ?_
    refine G_get (pc := 17) (v := .ref (y.2.1 134)) h.1 fl_X8_29 lN141 (eM141 _) rfl dX8_unwish_17 ?_
    refine G_aload_n (pc := 20) h.1 dX8_unwish_20 rfl 0 rfl ?_
    refine G_get (pc := 21) (v := .ref (y.2.1 (sI 0 0))) h.1 fl_X8_12 lN141 (eM141 _) rfl dX8_unwish_21 ?_
    refine G_callVv (pc := 24) (As := [.ref (y.2.1 (sI 0 0))]) (rest := []) h.1 h.2.2.1 lk_X8_72 lN134 (eM134 _) rfl rfl (c_X2_push x.1.2.1 y hy 0 h7_0 M1) rfl rfl (Nat.le_of_ble_eq_true rfl) ⟨rfl, rfl, Nat.le_of_ble_eq_true rfl, Nat.le_of_ble_eq_true rfl⟩ dX8_unwish_24 (fun r4 M3 => ?_)
    refine G_aload_n (pc := 27) h.1 dX8_unwish_27 rfl 0 rfl ?_
    refine G_get (pc := 28) (v := .ref (y.2.1 (sI 0 0))) h.1 fl_X8_12 lN141 (eM141 _) rfl dX8_unwish_28 ?_
    refine G_get (pc := 31) (v := .ref (y.2.1 (sI 0 12))) h.1 fl_X8_166 (ids_s h7_0 0 (by decide)) (eS0 h7_0 _) rfl dX8_unwish_31 ?_
    refine G_get (pc := 34) (v := .ref (y.2.1 (sI 0 14))) h.1 fl_X8_175 (ids_s h7_0 12 (by decide)) (eS12 h7_0 _) rfl dX8_unwish_34 ?_
    refine G_iload_n (pc := 37) h.1 dX8_unwish_37 rfl 1 rfl ?_
    refine G_iald (pc := 38) h.1 (ids_s h7_0 14 (by decide)) (eS14 h7_0 _) dX8_unwish_38 ?_
    refine G_top (fun v5 => ?_)
    refine G_istore_n (pc := 39) h.1 h.2.1 [(2, .int v5), (0, .ref (y.2.1 141)), (1, .int p1)] dX8_unwish_39 rfl (by decide) rfl ?_
    refine G_aload_n (pc := 40) h.1 dX8_unwish_40 rfl 1 rfl ?_
    refine G_get (pc := 41) (v := .ref (y.2.1 (sI 0 0))) h.1 fl_X8_12 lN141 (eM141 _) rfl dX8_unwish_41 ?_
    refine G_get (pc := 44) (v := .ref (y.2.1 (sI 0 12))) h.1 fl_X8_166 (ids_s h7_0 0 (by decide)) (eS0 h7_0 _) rfl dX8_unwish_44 ?_
    refine G_iload_n (pc := 47) h.1 dX8_unwish_47 rfl 2 rfl ?_
    refine G_callVv (pc := 48) (As := [.int p1]) (rest := []) h.1 h.2.2.1 lk_X8_176 (ids_s h7_0 12 (by decide)) (eS12 h7_0 _) rfl rfl (c_X7_takeOut x.1.2.1 y hy 0 h7_0 p1 M3) rfl rfl (Nat.le_of_ble_eq_true rfl) ⟨rfl, rfl, Nat.le_of_ble_eq_true rfl, Nat.le_of_ble_eq_true rfl⟩ dX8_unwish_48 (fun r7 M6 => ?_)
    refine G_iload_n (pc := 51) h.1 dX8_unwish_51 rfl 0 rfl ?_
    exact G_ret (pc := 52) h rfl dX8_unwish_52
  · refine G_iconst (pc := 14) (v := (-1)) h.1 dX8_unwish_14 (by decide) ?_
    exact G_ret (pc := 15) h rfl dX8_unwish_15
theorem dX8_takeOver_0 : decode cX8_takeOver 0 = .ok (.iconst 0, 1) := by decide +kernel
theorem dX8_takeOver_1 : decode cX8_takeOver 1 = .ok (.istore_n 2, 1) := by decide +kernel
theorem dX8_takeOver_2 : decode cX8_takeOver 2 = .ok (.iconst 0, 1) := by decide +kernel
theorem dX8_takeOver_3 : decode cX8_takeOver 3 = .ok (.istore_n 3, 1) := by decide +kernel
theorem dX8_takeOver_4 : decode cX8_takeOver 4 = .ok (.iload_n 3, 1) := by decide +kernel
theorem dX8_takeOver_5 : decode cX8_takeOver 5 = .ok (.aload_n 1, 1) := by decide +kernel
theorem dX8_takeOver_6 : decode cX8_takeOver 6 = .ok (.getfield 294, 3) := by decide +kernel
theorem dX8_takeOver_9 : decode cX8_takeOver 9 = .ok (.if_icmp .ge 83, 3) := by decide +kernel
theorem dX8_takeOver_12 : decode cX8_takeOver 12 = .ok (.aload_n 1, 1) := by decide +kernel
theorem dX8_takeOver_13 : decode cX8_takeOver 13 = .ok (.getfield 297, 3) := by decide +kernel
theorem dX8_takeOver_16 : decode cX8_takeOver 16 = .ok (.iload_n 3, 1) := by decide +kernel
theorem dX8_takeOver_17 : decode cX8_takeOver 17 = .ok (.iaload, 1) := by decide +kernel
theorem dX8_takeOver_18 : decode cX8_takeOver 18 = .ok (.istore 4, 2) := by decide +kernel
theorem dX8_takeOver_20 : decode cX8_takeOver 20 = .ok (.aload_n 0, 1) := by decide +kernel
theorem dX8_takeOver_21 : decode cX8_takeOver 21 = .ok (.getfield 12, 3) := by decide +kernel
theorem dX8_takeOver_24 : decode cX8_takeOver 24 = .ok (.getfield 106, 3) := by decide +kernel
theorem dX8_takeOver_27 : decode cX8_takeOver 27 = .ok (.iload 4, 2) := by decide +kernel
theorem dX8_takeOver_29 : decode cX8_takeOver 29 = .ok (.invokevirtual 114, 3) := by decide +kernel
theorem dX8_takeOver_32 : decode cX8_takeOver 32 = .ok (.ifCond .eq 41, 3) := by decide +kernel
theorem dX8_takeOver_35 : decode cX8_takeOver 35 = .ok (.aload_n 0, 1) := by decide +kernel
theorem dX8_takeOver_36 : decode cX8_takeOver 36 = .ok (.getfield 12, 3) := by decide +kernel
theorem dX8_takeOver_39 : decode cX8_takeOver 39 = .ok (.getfield 106, 3) := by decide +kernel
theorem dX8_takeOver_42 : decode cX8_takeOver 42 = .ok (.getfield 121, 3) := by decide +kernel
theorem dX8_takeOver_45 : decode cX8_takeOver 45 = .ok (.iload 4, 2) := by decide +kernel
theorem dX8_takeOver_47 : decode cX8_takeOver 47 = .ok (.aload_n 1, 1) := by decide +kernel
theorem dX8_takeOver_48 : decode cX8_takeOver 48 = .ok (.getfield 289, 3) := by decide +kernel
theorem dX8_takeOver_51 : decode cX8_takeOver 51 = .ok (.iload_n 3, 1) := by decide +kernel
theorem dX8_takeOver_52 : decode cX8_takeOver 52 = .ok (.iaload, 1) := by decide +kernel
theorem dX8_takeOver_53 : decode cX8_takeOver 53 = .ok (.iastore, 1) := by decide +kernel
theorem dX8_takeOver_54 : decode cX8_takeOver 54 = .ok (.aload_n 0, 1) := by decide +kernel
theorem dX8_takeOver_55 : decode cX8_takeOver 55 = .ok (.getfield 12, 3) := by decide +kernel
theorem dX8_takeOver_58 : decode cX8_takeOver 58 = .ok (.getfield 106, 3) := by decide +kernel
theorem dX8_takeOver_61 : decode cX8_takeOver 61 = .ok (.getfield 240, 3) := by decide +kernel
theorem dX8_takeOver_64 : decode cX8_takeOver 64 = .ok (.iload 4, 2) := by decide +kernel
theorem dX8_takeOver_66 : decode cX8_takeOver 66 = .ok (.aload_n 1, 1) := by decide +kernel
theorem dX8_takeOver_67 : decode cX8_takeOver 67 = .ok (.getfield 303, 3) := by decide +kernel
theorem dX8_takeOver_70 : decode cX8_takeOver 70 = .ok (.iload_n 3, 1) := by decide +kernel
theorem dX8_takeOver_71 : decode cX8_takeOver 71 = .ok (.iaload, 1) := by decide +kernel
theorem dX8_takeOver_72 : decode cX8_takeOver 72 = .ok (.iastore, 1) := by decide +kernel
theorem dX8_takeOver_73 : decode cX8_takeOver 73 = .ok (.aload_n 1, 1) := by decide +kernel
theorem dX8_takeOver_74 : decode cX8_takeOver 74 = .ok (.getfield 289, 3) := by decide +kernel
theorem dX8_takeOver_77 : decode cX8_takeOver 77 = .ok (.iload_n 3, 1) := by decide +kernel
theorem dX8_takeOver_78 : decode cX8_takeOver 78 = .ok (.iaload, 1) := by decide +kernel
theorem dX8_takeOver_79 : decode cX8_takeOver 79 = .ok (.iconst 2, 1) := by decide +kernel
theorem dX8_takeOver_80 : decode cX8_takeOver 80 = .ok (.if_icmp .ne 6, 3) := by decide +kernel
theorem dX8_takeOver_83 : decode cX8_takeOver 83 = .ok (.iinc 2 1, 3) := by decide +kernel
theorem dX8_takeOver_86 : decode cX8_takeOver 86 = .ok (.iinc 3 1, 3) := by decide +kernel
theorem dX8_takeOver_89 : decode cX8_takeOver 89 = .ok (.goto (-85), 3) := by decide +kernel
theorem dX8_takeOver_92 : decode cX8_takeOver 92 = .ok (.aload_n 0, 1) := by decide +kernel
theorem dX8_takeOver_93 : decode cX8_takeOver 93 = .ok (.getfield 12, 3) := by decide +kernel
theorem dX8_takeOver_96 : decode cX8_takeOver 96 = .ok (.aload_n 1, 1) := by decide +kernel
theorem dX8_takeOver_97 : decode cX8_takeOver 97 = .ok (.getfield 304, 3) := by decide +kernel
theorem dX8_takeOver_100 : decode cX8_takeOver 100 = .ok (.putfield 180, 3) := by decide +kernel
theorem dX8_takeOver_103 : decode cX8_takeOver 103 = .ok (.aload_n 0, 1) := by decide +kernel
theorem dX8_takeOver_104 : decode cX8_takeOver 104 = .ok (.getfield 12, 3) := by decide +kernel
theorem dX8_takeOver_107 : decode cX8_takeOver 107 = .ok (.aload_n 1, 1) := by decide +kernel
theorem dX8_takeOver_108 : decode cX8_takeOver 108 = .ok (.getfield 256, 3) := by decide +kernel
theorem dX8_takeOver_111 : decode cX8_takeOver 111 = .ok (.putfield 90, 3) := by decide +kernel
theorem dX8_takeOver_114 : decode cX8_takeOver 114 = .ok (.aload_n 0, 1) := by decide +kernel
theorem dX8_takeOver_115 : decode cX8_takeOver 115 = .ok (.getfield 12, 3) := by decide +kernel
theorem dX8_takeOver_118 : decode cX8_takeOver 118 = .ok (.dup, 1) := by decide +kernel
theorem dX8_takeOver_119 : decode cX8_takeOver 119 = .ok (.getfield 272, 3) := by decide +kernel
theorem dX8_takeOver_122 : decode cX8_takeOver 122 = .ok (.aload_n 1, 1) := by decide +kernel
theorem dX8_takeOver_123 : decode cX8_takeOver 123 = .ok (.getfield 305, 3) := by decide +kernel
theorem dX8_takeOver_126 : decode cX8_takeOver 126 = .ok (.iadd, 1) := by decide +kernel
theorem dX8_takeOver_127 : decode cX8_takeOver 127 = .ok (.putfield 272, 3) := by decide +kernel
theorem dX8_takeOver_130 : decode cX8_takeOver 130 = .ok (.aload_n 0, 1) := by decide +kernel
theorem dX8_takeOver_131 : decode cX8_takeOver 131 = .ok (.getfield 12, 3) := by decide +kernel
theorem dX8_takeOver_134 : decode cX8_takeOver 134 = .ok (.dup, 1) := by decide +kernel
theorem dX8_takeOver_135 : decode cX8_takeOver 135 = .ok (.getfield 269, 3) := by decide +kernel
theorem dX8_takeOver_138 : decode cX8_takeOver 138 = .ok (.aload_n 0, 1) := by decide +kernel
theorem dX8_takeOver_139 : decode cX8_takeOver 139 = .ok (.getfield 12, 3) := by decide +kernel
theorem dX8_takeOver_142 : decode cX8_takeOver 142 = .ok (.getfield 166, 3) := by decide +kernel
theorem dX8_takeOver_145 : decode cX8_takeOver 145 = .ok (.aload_n 0, 1) := by decide +kernel
theorem dX8_takeOver_146 : decode cX8_takeOver 146 = .ok (.getfield 12, 3) := by decide +kernel
theorem dX8_takeOver_149 : decode cX8_takeOver 149 = .ok (.getfield 180, 3) := by decide +kernel
theorem dX8_takeOver_152 : decode cX8_takeOver 152 = .ok (.invokevirtual 308, 3) := by decide +kernel
theorem dX8_takeOver_155 : decode cX8_takeOver 155 = .ok (.iadd, 1) := by decide +kernel
theorem dX8_takeOver_156 : decode cX8_takeOver 156 = .ok (.putfield 269, 3) := by decide +kernel
theorem dX8_takeOver_159 : decode cX8_takeOver 159 = .ok (.iload_n 2, 1) := by decide +kernel
theorem dX8_takeOver_160 : decode cX8_takeOver 160 = .ok (.ireturn, 1) := by decide +kernel
abbrev rX8_takeOver : Room := { frames := 3, cells := 0, slots := 0, locals := 66 }
set_option maxRecDepth 20000 in
theorem gd_X8_takeOver_B86 {x : Cx} {y : Cy} (hy : Inj y) (h : OkM x y cX8_takeOver RX8 5 (some .int) rX8_takeOver) (q1 : Nat) (hq1 : q1 < 2) (kx1 : Int32 → Mem → Ans) (kb : Int32 → Int32 → Mem → Ans) (a2 : Int32) (a3 : Int32) (hx1 : ∀ (b2 : Int32), ∀ M0 : Mem, G x y 92 [(0, .ref (y.2.1 141)), (1, .ref (y.2.1 (cI q1 0))), (2, .int b2)] [] M0 (kx1 b2 M0)) (hb : ∀ (b2 b3 : Int32), ∀ M0 : Mem, G x y 4 [(0, .ref (y.2.1 141)), (1, .ref (y.2.1 (cI q1 0))), (2, .int b2), (3, .int b3)] [] M0 (kb b2 b3 M0)) (M : Mem) : G x y 86 [(0, .ref (y.2.1 141)), (1, .ref (y.2.1 (cI q1 0))), (2, .int a2), (3, .int a3)] [] M (d_X8_takeOver_B86 q1 kx1 kb a2 a3 M) := by
  unfold d_X8_takeOver_B86
  refine G_iinc (pc := 86) (v := a3 + (1)) h.1 h.2.1 (fun v4 => [(3, .int v4), (0, .ref (y.2.1 141)), (1, .ref (y.2.1 (cI q1 0))), (2, .int a2)]) dX8_takeOver_86 (by decide) 3 rfl rfl (fun _ => rfl) (fun v4 => ?_)
  refine G_goto (pc := 89) (tgt := 4) h.1 dX8_takeOver_89 (by decide) ?_
  exact G_sub [1, 2, 3, 0] rfl (hb a2 v4 M)
set_option maxRecDepth 20000 in
theorem gd_X8_takeOver_B73 {x : Cx} {y : Cy} (hy : Inj y) (h : OkM x y cX8_takeOver RX8 5 (some .int) rX8_takeOver) (q1 : Nat) (hq1 : q1 < 2) (kx1 : Int32 → Mem → Ans) (kb : Int32 → Int32 → Mem → Ans) (a2 : Int32) (a3 : Int32) (hx1 : ∀ (b2 : Int32), ∀ M0 : Mem, G x y 92 [(0, .ref (y.2.1 141)), (1, .ref (y.2.1 (cI q1 0))), (2, .int b2)] [] M0 (kx1 b2 M0)) (hb : ∀ (b2 b3 : Int32), ∀ M0 : Mem, G x y 4 [(0, .ref (y.2.1 141)), (1, .ref (y.2.1 (cI q1 0))), (2, .int b2), (3, .int b3)] [] M0 (kb b2 b3 M0)) (M : Mem) : G x y 73 [(0, .ref (y.2.1 141)), (1, .ref (y.2.1 (cI q1 0))), (2, .int a2), (3, .int a3)] [] M (d_X8_takeOver_B73 q1 kx1 kb a2 a3 M) := by
  unfold d_X8_takeOver_B73
  refine G_aload_n (pc := 73) h.1 dX8_takeOver_73 rfl 1 rfl ?_
  refine G_get (pc := 74) (v := .ref (y.2.1 (cI q1 2))) h.1 fl_X8_289 (ids_c hq1 0 (by decide)) (eC0 hq1 _) rfl dX8_takeOver_74 ?_
  refine G_iload_n (pc := 77) h.1 dX8_takeOver_77 rfl 3 rfl ?_
  refine G_iald (pc := 78) h.1 (ids_c hq1 2 (by decide)) (eC2 hq1 _) dX8_takeOver_78 ?_
  refine G_iconst (pc := 79) (v := (2)) h.1 dX8_takeOver_79 (by decide) ?_
  refine G_icmp_ne (pc := 80) (tgt := 86) h.1 dX8_takeOver_80 (by decide) ?_ ?_
  · exact G_sub [0, 1, 2, 3] rfl (gd_X8_takeOver_B86 hy h q1 hq1 kx1 kb a2 a3 hx1 hb M)
  · refine G_iinc (pc := 83) (v := a2 + (1)) h.1 h.2.1 (fun v5 => [(2, .int v5), (0, .ref (y.2.1 141)), (1, .ref (y.2.1 (cI q1 0))), (3, .int a3)]) dX8_takeOver_83 (by decide) 2 rfl rfl (fun _ => rfl) (fun v5 => ?_)
    exact G_sub [1, 2, 0, 3] rfl (gd_X8_takeOver_B86 hy h q1 hq1 kx1 kb v5 a3 hx1 hb M)
set_option maxRecDepth 20000 in
theorem gd_X8_takeOver_L4_body {x : Cx} {y : Cy} (hy : Inj y) (h : OkM x y cX8_takeOver RX8 5 (some .int) rX8_takeOver) (q1 : Nat) (hq1 : q1 < 2) (kx1 : Int32 → Mem → Ans) (hx1 : ∀ (b2 : Int32), ∀ M0 : Mem, G x y 92 [(0, .ref (y.2.1 141)), (1, .ref (y.2.1 (cI q1 0))), (2, .int b2)] [] M0 (kx1 b2 M0)) (kb : Int32 → Int32 → Mem → Ans) (hb : ∀ (b2 b3 : Int32), ∀ M0 : Mem, G x y 4 [(0, .ref (y.2.1 141)), (1, .ref (y.2.1 (cI q1 0))), (2, .int b2), (3, .int b3)] [] M0 (kb b2 b3 M0)) (a2 : Int32) (a3 : Int32) (M : Mem) : G x y 4 [(0, .ref (y.2.1 141)), (1, .ref (y.2.1 (cI q1 0))), (2, .int a2), (3, .int a3)] [] M (d_X8_takeOver_L4_body q1 kx1 kb a2 a3 M) := by
  unfold d_X8_takeOver_L4_body
  refine G_iload_n (pc := 4) h.1 dX8_takeOver_4 rfl 3 rfl ?_
  refine G_aload_n (pc := 5) h.1 dX8_takeOver_5 rfl 1 rfl ?_
  refine G_get (pc := 6) (v := .int (M (cI q1 0) 6)) h.1 fl_X8_294 (ids_c hq1 0 (by decide)) (eC0 hq1 _) rfl dX8_takeOver_6 ?_
  refine G_icmp_ge (pc := 9) (tgt := 92) h.1 dX8_takeOver_9 (by decide) ?_ ?_
  · exact G_sub [0, 1, 2] rfl (hx1 a2 M)
  · refine G_aload_n (pc := 12) h.1 dX8_takeOver_12 rfl 1 rfl ?_
    refine G_get (pc := 13) (v := .ref (y.2.1 (cI q1 1))) h.1 fl_X8_297 (ids_c hq1 0 (by decide)) (eC0 hq1 _) rfl dX8_takeOver_13 ?_
    refine G_iload_n (pc := 16) h.1 dX8_takeOver_16 rfl 3 rfl ?_
    refine G_iald (pc := 17) h.1 (ids_c hq1 1 (by decide)) (eC1 hq1 _) dX8_takeOver_17 ?_
    refine G_top (fun v1 => ?_)
    refine G_istore (pc := 18) h.1 h.2.1 [(4, .int v1), (0, .ref (y.2.1 141)), (1, .ref (y.2.1 (cI q1 0))), (2, .int a2), (3, .int a3)] dX8_takeOver_18 (by decide) rfl ?_
    refine G_aload_n (pc := 20) h.1 dX8_takeOver_20 rfl 1 rfl ?_
    refine G_get (pc := 21) (v := .ref (y.2.1 (sI 0 0))) h.1 fl_X8_12 lN141 (eM141 _) rfl dX8_takeOver_21 ?_
    refine G_get (pc := 24) (v := .ref (y.2.1 (sI 0 6))) h.1 fl_X8_106 (ids_s h7_0 0 (by decide)) (eS0 h7_0 _) rfl dX8_takeOver_24 ?_
    refine G_iload (pc := 27) h.1 dX8_takeOver_27 0 rfl ?_
    refine G_callV (pc := 29) (As := [.int v1]) (rest := []) h.1 h.2.2.1 lk_X8_114 (ids_s h7_0 6 (by decide)) (eS6 h7_0 _) rfl rfl (c_X0_has x.1.2.1 y hy 0 h7_0 v1 M) rfl rfl (Nat.le_of_ble_eq_true rfl) ⟨rfl, rfl, Nat.le_of_ble_eq_true rfl, Nat.le_of_ble_eq_true rfl⟩ dX8_takeOver_29 (fun r3 M2 => ?_)
    refine G_if_eq (pc := 32) (tgt := 73) h.1 dX8_takeOver_32 (by decide) ?_ ?_
    · exact G_sub [1, 2, 3, 4] rfl (gd_X8_takeOver_B73 hy h q1 hq1 kx1 kb a2 a3 hx1 hb M2)
    · refine G_aload_n (pc := 35) h.1 dX8_takeOver_35 rfl 1 rfl ?_
      refine G_get (pc := 36) (v := .ref (y.2.1 (sI 0 0))) h.1 fl_X8_12 lN141 (eM141 _) rfl dX8_takeOver_36 ?_
      refine G_get (pc := 39) (v := .ref (y.2.1 (sI 0 6))) h.1 fl_X8_106 (ids_s h7_0 0 (by decide)) (eS0 h7_0 _) rfl dX8_takeOver_39 ?_
      refine G_get (pc := 42) (v := .ref (y.2.1 (sI 0 10))) h.1 fl_X8_121 (ids_s h7_0 6 (by decide)) (eS6 h7_0 _) rfl dX8_takeOver_42 ?_
      refine G_iload (pc := 45) h.1 dX8_takeOver_45 0 rfl ?_
      refine G_aload_n (pc := 47) h.1 dX8_takeOver_47 rfl 2 rfl ?_
      refine G_get (pc := 48) (v := .ref (y.2.1 (cI q1 2))) h.1 fl_X8_289 (ids_c hq1 0 (by decide)) (eC0 hq1 _) rfl dX8_takeOver_48 ?_
      refine G_iload_n (pc := 51) h.1 dX8_takeOver_51 rfl 4 rfl ?_
      refine G_iald (pc := 52) h.1 (ids_c hq1 2 (by decide)) (eC2 hq1 _) dX8_takeOver_52 ?_
      refine G_iast (pc := 53) h.1 (ids_s h7_0 10 (by decide)) (fun m => eS10 h7_0 m) dX8_takeOver_53 (fun M6 => ?_)
      refine G_aload_n (pc := 54) h.1 dX8_takeOver_54 rfl 1 rfl ?_
      refine G_get (pc := 55) (v := .ref (y.2.1 (sI 0 0))) h.1 fl_X8_12 lN141 (eM141 _) rfl dX8_takeOver_55 ?_
      refine G_get (pc := 58) (v := .ref (y.2.1 (sI 0 6))) h.1 fl_X8_106 (ids_s h7_0 0 (by decide)) (eS0 h7_0 _) rfl dX8_takeOver_58 ?_
      refine G_get (pc := 61) (v := .ref (y.2.1 (sI 0 11))) h.1 fl_X8_240 (ids_s h7_0 6 (by decide)) (eS6 h7_0 _) rfl dX8_takeOver_61 ?_
      refine G_iload (pc := 64) h.1 dX8_takeOver_64 0 rfl ?_
      refine G_aload_n (pc := 66) h.1 dX8_takeOver_66 rfl 2 rfl ?_
      refine G_get (pc := 67) (v := .ref (y.2.1 (cI q1 3))) h.1 fl_X8_303 (ids_c hq1 0 (by decide)) (eC0 hq1 _) rfl dX8_takeOver_67 ?_
      refine G_iload_n (pc := 70) h.1 dX8_takeOver_70 rfl 4 rfl ?_
      refine G_iald (pc := 71) h.1 (ids_c hq1 3 (by decide)) (eC3 hq1 _) dX8_takeOver_71 ?_
      refine G_iast (pc := 72) h.1 (ids_s h7_0 11 (by decide)) (fun m => eS11 h7_0 m) dX8_takeOver_72 (fun M7 => ?_)
      exact G_sub [1, 2, 3, 4] rfl (gd_X8_takeOver_B73 hy h q1 hq1 kx1 kb a2 a3 hx1 hb M7)
set_option maxRecDepth 20000 in
theorem gd_X8_takeOver_L4 {x : Cx} {y : Cy} (hy : Inj y) (h : OkM x y cX8_takeOver RX8 5 (some .int) rX8_takeOver) (q1 : Nat) (hq1 : q1 < 2) (kx1 : Int32 → Mem → Ans) (hx1 : ∀ (b2 : Int32), ∀ M0 : Mem, G x y 92 [(0, .ref (y.2.1 141)), (1, .ref (y.2.1 (cI q1 0))), (2, .int b2)] [] M0 (kx1 b2 M0)) : ∀ (n : Nat) (a2 : Int32) (a3 : Int32) (M : Mem), G x y 4 [(0, .ref (y.2.1 141)), (1, .ref (y.2.1 (cI q1 0))), (2, .int a2), (3, .int a3)] [] M (d_X8_takeOver_L4 q1 kx1 n a2 a3 M) := by
  intro n
  induction n with
  | zero => intro a2 a3 M; exact G_none
  | succ n ih => intro a2 a3 M; exact gd_X8_takeOver_L4_body hy h q1 hq1 kx1 hx1 _ ih a2 a3 M
set_option maxRecDepth 20000 in
theorem c_X8_takeOver (l : Launch) (y : Cy) (hy : Inj y) (q1 : Nat) (hq1 : q1 < 2) (M : Mem) : CT l y yX8_takeOver cX8_takeOver 5 (some .int) rX8_takeOver [.ref (y.2.1 141), .ref (y.2.1 (cI q1 0))] M (d_X8_takeOver q1 M) := by
  refine CT_of (by decide) hy (Nat.le_of_ble_eq_true rfl) (fun x hxl h => ?_)
  show G x y 0 [(0, .ref (y.2.1 141)), (1, .ref (y.2.1 (cI q1 0)))] [] M _
  unfold d_X8_takeOver
  refine G_iconst (pc := 0) (v := (0)) h.1 dX8_takeOver_0 (by decide) ?_
  refine G_istore_n (pc := 1) h.1 h.2.1 [(2, .int (0 : Int32)), (0, .ref (y.2.1 141)), (1, .ref (y.2.1 (cI q1 0)))] dX8_takeOver_1 rfl (by decide) rfl ?_
  refine G_iconst (pc := 2) (v := (0)) h.1 dX8_takeOver_2 (by decide) ?_
  refine G_istore_n (pc := 3) h.1 h.2.1 [(3, .int (0 : Int32)), (2, .int (0 : Int32)), (0, .ref (y.2.1 141)), (1, .ref (y.2.1 (cI q1 0)))] dX8_takeOver_3 rfl (by decide) rfl ?_
  refine G_sub [2, 3, 1, 0] rfl (gd_X8_takeOver_L4 hy h q1 hq1 _ (fun v8 M9 => ?_) fuelN (0 : Int32) (0 : Int32) M)
  refine G_aload_n (pc := 92) h.1 dX8_takeOver_92 rfl 0 rfl ?_
  refine G_get (pc := 93) (v := .ref (y.2.1 (sI 0 0))) h.1 fl_X8_12 lN141 (eM141 _) rfl dX8_takeOver_93 ?_
  refine G_aload_n (pc := 96) h.1 dX8_takeOver_96 rfl 1 rfl ?_
  refine G_get (pc := 97) (v := .int (M9 (cI q1 0) 0)) h.1 fl_X8_304 (ids_c hq1 0 (by decide)) (eC0 hq1 _) rfl dX8_takeOver_97 ?_
  refine G_put (pc := 100) h.1 fp_X8_180 (ids_s h7_0 0 (by decide)) (fun m => eS0 h7_0 m) (fun _ => rfl) (fun _ => Nat.le_of_ble_eq_true rfl) rfl rfl dX8_takeOver_100 (fun M10 => ?_)
  refine G_aload_n (pc := 103) h.1 dX8_takeOver_103 rfl 0 rfl ?_
  refine G_get (pc := 104) (v := .ref (y.2.1 (sI 0 0))) h.1 fl_X8_12 lN141 (eM141 _) rfl dX8_takeOver_104 ?_
  refine G_aload_n (pc := 107) h.1 dX8_takeOver_107 rfl 1 rfl ?_
  refine G_get (pc := 108) (v := .int (M10 (cI q1 0) 1)) h.1 fl_X8_256 (ids_c hq1 0 (by decide)) (eC0 hq1 _) rfl dX8_takeOver_108 ?_
  refine G_put (pc := 111) h.1 fp_X8_90 (ids_s h7_0 0 (by decide)) (fun m => eS0 h7_0 m) (fun _ => rfl) (fun _ => Nat.le_of_ble_eq_true rfl) rfl rfl dX8_takeOver_111 (fun M11 => ?_)
  refine G_aload_n (pc := 114) h.1 dX8_takeOver_114 rfl 0 rfl ?_
  refine G_get (pc := 115) (v := .ref (y.2.1 (sI 0 0))) h.1 fl_X8_12 lN141 (eM141 _) rfl dX8_takeOver_115 ?_
  refine G_dup (pc := 118) h.1 dX8_takeOver_118 rfl ?_
  refine G_get (pc := 119) (v := .int (M11 (sI 0 0) 6)) h.1 fl_X8_272 (ids_s h7_0 0 (by decide)) (eS0 h7_0 _) rfl dX8_takeOver_119 ?_
  refine G_aload_n (pc := 122) h.1 dX8_takeOver_122 rfl 1 rfl ?_
  refine G_get (pc := 123) (v := .int (M11 (cI q1 0) 5)) h.1 fl_X8_305 (ids_c hq1 0 (by decide)) (eC0 hq1 _) rfl dX8_takeOver_123 ?_
  refine G_iadd (pc := 126) h.1 dX8_takeOver_126 ?_
  refine G_put (pc := 127) h.1 fp_X8_272 (ids_s h7_0 0 (by decide)) (fun m => eS0 h7_0 m) (fun _ => rfl) (fun _ => Nat.le_of_ble_eq_true rfl) rfl rfl dX8_takeOver_127 (fun M12 => ?_)
  refine G_aload_n (pc := 130) h.1 dX8_takeOver_130 rfl 0 rfl ?_
  refine G_get (pc := 131) (v := .ref (y.2.1 (sI 0 0))) h.1 fl_X8_12 lN141 (eM141 _) rfl dX8_takeOver_131 ?_
  refine G_dup (pc := 134) h.1 dX8_takeOver_134 rfl ?_
  refine G_get (pc := 135) (v := .int (M12 (sI 0 0) 5)) h.1 fl_X8_269 (ids_s h7_0 0 (by decide)) (eS0 h7_0 _) rfl dX8_takeOver_135 ?_
  refine G_aload_n (pc := 138) h.1 dX8_takeOver_138 rfl 0 rfl ?_
  refine G_get (pc := 139) (v := .ref (y.2.1 (sI 0 0))) h.1 fl_X8_12 lN141 (eM141 _) rfl dX8_takeOver_139 ?_
  refine G_get (pc := 142) (v := .ref (y.2.1 (sI 0 12))) h.1 fl_X8_166 (ids_s h7_0 0 (by decide)) (eS0 h7_0 _) rfl dX8_takeOver_142 ?_
  refine G_aload_n (pc := 145) h.1 dX8_takeOver_145 rfl 0 rfl ?_
  refine G_get (pc := 146) (v := .ref (y.2.1 (sI 0 0))) h.1 fl_X8_12 lN141 (eM141 _) rfl dX8_takeOver_146 ?_
  refine G_get (pc := 149) (v := .int (M12 (sI 0 0) 0)) h.1 fl_X8_180 (ids_s h7_0 0 (by decide)) (eS0 h7_0 _) rfl dX8_takeOver_149 ?_
  refine G_callV (pc := 152) (As := [.int (M12 (sI 0 0) 0)]) (rest := [.int (M12 (sI 0 0) 5), .ref (y.2.1 (sI 0 0))]) h.1 h.2.2.1 lk_X8_308 (ids_s h7_0 12 (by decide)) (eS12 h7_0 _) rfl rfl (c_X7_dropUntil x.1.2.1 y hy 0 h7_0 (M12 (sI 0 0) 0) M12) rfl rfl (Nat.le_of_ble_eq_true rfl) ⟨rfl, rfl, Nat.le_of_ble_eq_true rfl, Nat.le_of_ble_eq_true rfl⟩ dX8_takeOver_152 (fun r14 M13 => ?_)
  refine G_iadd (pc := 155) h.1 dX8_takeOver_155 ?_
  refine G_put (pc := 156) h.1 fp_X8_269 (ids_s h7_0 0 (by decide)) (fun m => eS0 h7_0 m) (fun _ => rfl) (fun _ => Nat.le_of_ble_eq_true rfl) rfl rfl dX8_takeOver_156 (fun M15 => ?_)
  refine G_iload_n (pc := 159) h.1 dX8_takeOver_159 rfl 2 rfl ?_
  exact G_ret (pc := 160) h rfl dX8_takeOver_160
theorem dX8_pass_0 : decode cX8_pass 0 = .ok (.iload_n 1, 1) := by decide +kernel
theorem dX8_pass_1 : decode cX8_pass 1 = .ok (.iconst 1, 1) := by decide +kernel
theorem dX8_pass_2 : decode cX8_pass 2 = .ok (.sipush 200, 3) := by decide +kernel
theorem dX8_pass_5 : decode cX8_pass 5 = .ok (.invokestatic 58, 3) := by decide +kernel
theorem dX8_pass_8 : decode cX8_pass 8 = .ok (.ifCond .ne 6, 3) := by decide +kernel
theorem dX8_pass_11 : decode cX8_pass 11 = .ok (.bipush (-2), 2) := by decide +kernel
theorem dX8_pass_13 : decode cX8_pass 13 = .ok (.ireturn, 1) := by decide +kernel
theorem dX8_pass_14 : decode cX8_pass 14 = .ok (.aload_n 0, 1) := by decide +kernel
theorem dX8_pass_15 : decode cX8_pass 15 = .ok (.getfield 12, 3) := by decide +kernel
theorem dX8_pass_18 : decode cX8_pass 18 = .ok (.getfield 180, 3) := by decide +kernel
theorem dX8_pass_21 : decode cX8_pass 21 = .ok (.iload_n 1, 1) := by decide +kernel
theorem dX8_pass_22 : decode cX8_pass 22 = .ok (.iadd, 1) := by decide +kernel
theorem dX8_pass_23 : decode cX8_pass 23 = .ok (.sipush 9000, 3) := by decide +kernel
theorem dX8_pass_26 : decode cX8_pass 26 = .ok (.if_icmp .le 6, 3) := by decide +kernel
theorem dX8_pass_29 : decode cX8_pass 29 = .ok (.bipush (-4), 2) := by decide +kernel
theorem dX8_pass_31 : decode cX8_pass 31 = .ok (.ireturn, 1) := by decide +kernel
theorem dX8_pass_32 : decode cX8_pass 32 = .ok (.aload_n 0, 1) := by decide +kernel
theorem dX8_pass_33 : decode cX8_pass 33 = .ok (.getfield 29, 3) := by decide +kernel
theorem dX8_pass_36 : decode cX8_pass 36 = .ok (.aload_n 0, 1) := by decide +kernel
theorem dX8_pass_37 : decode cX8_pass 37 = .ok (.getfield 12, 3) := by decide +kernel
theorem dX8_pass_40 : decode cX8_pass 40 = .ok (.invokevirtual 72, 3) := by decide +kernel
theorem dX8_pass_43 : decode cX8_pass 43 = .ok (.aload_n 0, 1) := by decide +kernel
theorem dX8_pass_44 : decode cX8_pass 44 = .ok (.getfield 43, 3) := by decide +kernel
theorem dX8_pass_47 : decode cX8_pass 47 = .ok (.aload_n 0, 1) := by decide +kernel
theorem dX8_pass_48 : decode cX8_pass 48 = .ok (.getfield 12, 3) := by decide +kernel
theorem dX8_pass_51 : decode cX8_pass 51 = .ok (.invokevirtual 183, 3) := by decide +kernel
theorem dX8_pass_54 : decode cX8_pass 54 = .ok (.aload_n 0, 1) := by decide +kernel
theorem dX8_pass_55 : decode cX8_pass 55 = .ok (.getfield 43, 3) := by decide +kernel
theorem dX8_pass_58 : decode cX8_pass 58 = .ok (.iload_n 1, 1) := by decide +kernel
theorem dX8_pass_59 : decode cX8_pass 59 = .ok (.invokevirtual 186, 3) := by decide +kernel
theorem dX8_pass_62 : decode cX8_pass 62 = .ok (.aload_n 0, 1) := by decide +kernel
theorem dX8_pass_63 : decode cX8_pass 63 = .ok (.aload_n 0, 1) := by decide +kernel
theorem dX8_pass_64 : decode cX8_pass 64 = .ok (.getfield 43, 3) := by decide +kernel
theorem dX8_pass_67 : decode cX8_pass 67 = .ok (.invokevirtual 189, 3) := by decide +kernel
theorem dX8_pass_70 : decode cX8_pass 70 = .ok (.ireturn, 1) := by decide +kernel
abbrev rX8_pass : Room := { frames := 4, cells := 0, slots := 0, locals := 92 }
set_option maxRecDepth 20000 in
theorem c_X8_pass (l : Launch) (y : Cy) (hy : Inj y) (p1 : Int32) (M : Mem) : CT l y yX8_pass cX8_pass 2 (some .int) rX8_pass [.ref (y.2.1 141), .int p1] M (d_X8_pass p1 M) := by
  refine CT_of (by decide) hy (Nat.le_of_ble_eq_true rfl) (fun x hxl h => ?_)
  show G x y 0 [(0, .ref (y.2.1 141)), (1, .int p1)] [] M _
  unfold d_X8_pass
  refine G_iload_n (pc := 0) h.1 dX8_pass_0 rfl 1 rfl ?_
  refine G_iconst (pc := 1) (v := (1)) h.1 dX8_pass_1 (by decide) ?_
  refine G_sipush (pc := 2) (v := (200)) h.1 dX8_pass_2 (by decide) ?_
  refine G_callS (pc := 5) (As := [.int p1, .int (1 : Int32), .int (200 : Int32)]) (rest := []) h.1 h.2.2.1 lk_X8_58 (c_X8_within x.1.2.1 y hy p1 (1 : Int32) (200 : Int32) M) rfl rfl (Nat.le_of_ble_eq_true rfl) ⟨rfl, rfl, Nat.le_of_ble_eq_true rfl, Nat.le_of_ble_eq_true rfl⟩ dX8_pass_5 (fun r2 M1 => ?_)
  refine G_if_ne (pc := 8) (tgt := 14) h.1 dX8_pass_8 (by decide) ?_ ?_
  · refine G_aload_n (pc := 14) h.1 dX8_pass_14 rfl 0 rfl ?_
    refine G_get (pc := 15) (v := .ref (y.2.1 (sI 0 0))) h.1 fl_X8_12 lN141 (eM141 _) rfl dX8_pass_15 ?_
    refine G_get (pc := 18) (v := .int (M1 (sI 0 0) 0)) h.1 fl_X8_180 (ids_s h7_0 0 (by decide)) (eS0 h7_0 _) rfl dX8_pass_18 ?_
    refine G_iload_n (pc := 21) h.1 dX8_pass_21 rfl 1 rfl ?_
    refine G_iadd (pc := 22) h.1 dX8_pass_22 ?_
    refine G_sipush (pc := 23) (v := (9000)) h.1 dX8_pass_23 (by decide) ?_
    refine G_icmp_le (pc := 26) (tgt := 32) h.1 dX8_pass_26 (by decide) ?_ ?_
    · refine G_aload_n (pc := 32) h.1 dX8_pass_32 rfl 0 rfl ?_
      refine G_get (pc := 33) (v := .ref (y.2.1 134)) h.1 fl_X8_29 lN141 (eM141 _) rfl dX8_pass_33 ?_
      refine G_aload_n (pc := 36) h.1 dX8_pass_36 rfl 0 rfl ?_
      refine G_get (pc := 37) (v := .ref (y.2.1 (sI 0 0))) h.1 fl_X8_12 lN141 (eM141 _) rfl dX8_pass_37 ?_
      refine G_callVv (pc := 40) (As := [.ref (y.2.1 (sI 0 0))]) (rest := []) h.1 h.2.2.1 lk_X8_72 lN134 (eM134 _) rfl rfl (c_X2_push x.1.2.1 y hy 0 h7_0 M1) rfl rfl (Nat.le_of_ble_eq_true rfl) ⟨rfl, rfl, Nat.le_of_ble_eq_true rfl, Nat.le_of_ble_eq_true rfl⟩ dX8_pass_40 (fun r4 M3 => ?_)
      refine G_aload_n (pc := 43) h.1 dX8_pass_43 rfl 0 rfl ?_
      refine G_get (pc := 44) (v := .ref (y.2.1 (cI 0 0))) h.1 fl_X8_43 lN141 (eM141 _) rfl dX8_pass_44 ?_
      refine G_aload_n (pc := 47) h.1 dX8_pass_47 rfl 0 rfl ?_
      refine G_get (pc := 48) (v := .ref (y.2.1 (sI 0 0))) h.1 fl_X8_12 lN141 (eM141 _) rfl dX8_pass_48 ?_
      refine G_callVv (pc := 51) (As := [.ref (y.2.1 (sI 0 0))]) (rest := []) h.1 h.2.2.1 lk_X8_183 (ids_c h2_0 0 (by decide)) (eC0 h2_0 _) rfl rfl (c_X1_begin x.1.2.1 y hy 0 0 h2_0 h7_0 M3) rfl rfl (Nat.le_of_ble_eq_true rfl) ⟨rfl, rfl, Nat.le_of_ble_eq_true rfl, Nat.le_of_ble_eq_true rfl⟩ dX8_pass_51 (fun r6 M5 => ?_)
      refine G_aload_n (pc := 54) h.1 dX8_pass_54 rfl 0 rfl ?_
      refine G_get (pc := 55) (v := .ref (y.2.1 (cI 0 0))) h.1 fl_X8_43 lN141 (eM141 _) rfl dX8_pass_55 ?_
      refine G_iload_n (pc := 58) h.1 dX8_pass_58 rfl 1 rfl ?_
      refine G_callVv (pc := 59) (As := [.int p1]) (rest := []) h.1 h.2.2.1 lk_X8_186 (ids_c h2_0 0 (by decide)) (eC0 h2_0 _) rfl rfl (c_X1_passTicks x.1.2.1 y hy 0 h2_0 p1 M5) rfl rfl (Nat.le_of_ble_eq_true rfl) ⟨rfl, rfl, Nat.le_of_ble_eq_true rfl, Nat.le_of_ble_eq_true rfl⟩ dX8_pass_59 (fun r8 M7 => ?_)
      refine G_aload_n (pc := 62) h.1 dX8_pass_62 rfl 0 rfl ?_
      refine G_aload_n (pc := 63) h.1 dX8_pass_63 rfl 0 rfl ?_
      refine G_get (pc := 64) (v := .ref (y.2.1 (cI 0 0))) h.1 fl_X8_43 lN141 (eM141 _) rfl dX8_pass_64 ?_
      refine G_callV (pc := 67) (As := [.ref (y.2.1 (cI 0 0))]) (rest := []) h.1 h.2.2.1 lk_X8_189 lN141 (eM141 _) rfl rfl (c_X8_takeOver x.1.2.1 y hy 0 h2_0 M7) rfl rfl (Nat.le_of_ble_eq_true rfl) ⟨rfl, rfl, Nat.le_of_ble_eq_true rfl, Nat.le_of_ble_eq_true rfl⟩ dX8_pass_67 (fun r10 M9 => ?_)
      exact G_ret (pc := 70) h rfl dX8_pass_70
    · refine G_bipush (pc := 29) (v := (-4)) h.1 dX8_pass_29 (by decide) ?_
      exact G_ret (pc := 31) h rfl dX8_pass_31
  · refine G_bipush (pc := 11) (v := (-2)) h.1 dX8_pass_11 (by decide) ?_
    exact G_ret (pc := 13) h rfl dX8_pass_13
theorem dX8_type_0 : decode cX8_type 0 = .ok (.aload_n 0, 1) := by decide +kernel
theorem dX8_type_1 : decode cX8_type 1 = .ok (.getfield 36, 3) := by decide +kernel
theorem dX8_type_4 : decode cX8_type 4 = .ok (.getfield 193, 3) := by decide +kernel
theorem dX8_type_7 : decode cX8_type 7 = .ok (.bipush 60, 2) := by decide +kernel
theorem dX8_type_9 : decode cX8_type 9 = .ok (.if_icmp .lt 6, 3) := by decide +kernel
theorem dX8_type_12 : decode cX8_type 12 = .ok (.bipush (-3), 2) := by decide +kernel
theorem dX8_type_14 : decode cX8_type 14 = .ok (.ireturn, 1) := by decide +kernel
theorem dX8_type_15 : decode cX8_type 15 = .ok (.aload_n 0, 1) := by decide +kernel
theorem dX8_type_16 : decode cX8_type 16 = .ok (.getfield 36, 3) := by decide +kernel
theorem dX8_type_19 : decode cX8_type 19 = .ok (.iload_n 1, 1) := by decide +kernel
theorem dX8_type_20 : decode cX8_type 20 = .ok (.invokevirtual 196, 3) := by decide +kernel
theorem dX8_type_23 : decode cX8_type 23 = .ok (.ireturn, 1) := by decide +kernel
abbrev rX8_type : Room := { frames := 1, cells := 0, slots := 0, locals := 21 }
set_option maxRecDepth 20000 in
theorem c_X8_type (l : Launch) (y : Cy) (hy : Inj y) (p1 : Int32) (M : Mem) : CT l y yX8_type cX8_type 2 (some .int) rX8_type [.ref (y.2.1 141), .int p1] M (d_X8_type p1 M) := by
  refine CT_of (by decide) hy (Nat.le_of_ble_eq_true rfl) (fun x hxl h => ?_)
  show G x y 0 [(0, .ref (y.2.1 141)), (1, .int p1)] [] M _
  unfold d_X8_type
  refine G_aload_n (pc := 0) h.1 dX8_type_0 rfl 0 rfl ?_
  refine G_get (pc := 1) (v := .ref (y.2.1 136)) h.1 fl_X8_36 lN141 (eM141 _) rfl dX8_type_1 ?_
  refine G_get (pc := 4) (v := .int (M 136 1)) h.1 fl_X8_193 lN136 (eM136 _) rfl dX8_type_4 ?_
  refine G_bipush (pc := 7) (v := (60)) h.1 dX8_type_7 (by decide) ?_
  refine G_icmp_lt (pc := 9) (tgt := 15) h.1 dX8_type_9 (by decide) ?_ ?_
  · refine G_aload_n (pc := 15) h.1 dX8_type_15 rfl 0 rfl ?_
    refine G_get (pc := 16) (v := .ref (y.2.1 136)) h.1 fl_X8_36 lN141 (eM141 _) rfl dX8_type_16 ?_
    refine G_iload_n (pc := 19) h.1 dX8_type_19 rfl 1 rfl ?_
    refine G_callV (pc := 20) (As := [.int p1]) (rest := []) h.1 h.2.2.1 lk_X8_196 lN136 (eM136 _) rfl rfl (c_X6_append x.1.2.1 y hy p1 M) rfl rfl (Nat.le_of_ble_eq_true rfl) ⟨rfl, rfl, Nat.le_of_ble_eq_true rfl, Nat.le_of_ble_eq_true rfl⟩ dX8_type_20 (fun r2 M1 => ?_)
    exact G_ret (pc := 23) h rfl dX8_type_23
  · refine G_bipush (pc := 12) (v := (-3)) h.1 dX8_type_12 (by decide) ?_
    exact G_ret (pc := 14) h rfl dX8_type_14
theorem dX8_clearText_0 : decode cX8_clearText 0 = .ok (.aload_n 0, 1) := by decide +kernel
theorem dX8_clearText_1 : decode cX8_clearText 1 = .ok (.getfield 36, 3) := by decide +kernel
theorem dX8_clearText_4 : decode cX8_clearText 4 = .ok (.getfield 193, 3) := by decide +kernel
theorem dX8_clearText_7 : decode cX8_clearText 7 = .ok (.istore_n 1, 1) := by decide +kernel
theorem dX8_clearText_8 : decode cX8_clearText 8 = .ok (.aload_n 0, 1) := by decide +kernel
theorem dX8_clearText_9 : decode cX8_clearText 9 = .ok (.getfield 36, 3) := by decide +kernel
theorem dX8_clearText_12 : decode cX8_clearText 12 = .ok (.iconst 0, 1) := by decide +kernel
theorem dX8_clearText_13 : decode cX8_clearText 13 = .ok (.putfield 193, 3) := by decide +kernel
theorem dX8_clearText_16 : decode cX8_clearText 16 = .ok (.iload_n 1, 1) := by decide +kernel
theorem dX8_clearText_17 : decode cX8_clearText 17 = .ok (.ireturn, 1) := by decide +kernel
abbrev rX8_clearText : Room := { frames := 0, cells := 0, slots := 0, locals := 0 }
set_option maxRecDepth 20000 in
theorem c_X8_clearText (l : Launch) (y : Cy) (hy : Inj y) (M : Mem) : CT l y yX8_clearText cX8_clearText 2 (some .int) rX8_clearText [.ref (y.2.1 141)] M (d_X8_clearText M) := by
  refine CT_of (by decide) hy (Nat.le_of_ble_eq_true rfl) (fun x hxl h => ?_)
  show G x y 0 [(0, .ref (y.2.1 141))] [] M _
  unfold d_X8_clearText
  refine G_aload_n (pc := 0) h.1 dX8_clearText_0 rfl 0 rfl ?_
  refine G_get (pc := 1) (v := .ref (y.2.1 136)) h.1 fl_X8_36 lN141 (eM141 _) rfl dX8_clearText_1 ?_
  refine G_get (pc := 4) (v := .int (M 136 1)) h.1 fl_X8_193 lN136 (eM136 _) rfl dX8_clearText_4 ?_
  refine G_istore_n (pc := 7) h.1 h.2.1 [(1, .int (M 136 1)), (0, .ref (y.2.1 141))] dX8_clearText_7 rfl (by decide) rfl ?_
  refine G_aload_n (pc := 8) h.1 dX8_clearText_8 rfl 1 rfl ?_
  refine G_get (pc := 9) (v := .ref (y.2.1 136)) h.1 fl_X8_36 lN141 (eM141 _) rfl dX8_clearText_9 ?_
  refine G_iconst (pc := 12) (v := (0)) h.1 dX8_clearText_12 (by decide) ?_
  refine G_put (pc := 13) h.1 fp_X8_193 lN136 (fun m => eM136 m) (fun _ => rfl) (fun _ => Nat.le_of_ble_eq_true rfl) rfl rfl dX8_clearText_13 (fun M1 => ?_)
  refine G_iload_n (pc := 16) h.1 dX8_clearText_16 rfl 0 rfl ?_
  exact G_ret (pc := 17) h rfl dX8_clearText_17
theorem dX8_bookAll_0 : decode cX8_bookAll 0 = .ok (.aload_n 0, 1) := by decide +kernel
theorem dX8_bookAll_1 : decode cX8_bookAll 1 = .ok (.getfield 36, 3) := by decide +kernel
theorem dX8_bookAll_4 : decode cX8_bookAll 4 = .ok (.invokevirtual 199, 3) := by decide +kernel
theorem dX8_bookAll_7 : decode cX8_bookAll 7 = .ok (.istore_n 1, 1) := by decide +kernel
theorem dX8_bookAll_8 : decode cX8_bookAll 8 = .ok (.iload_n 1, 1) := by decide +kernel
theorem dX8_bookAll_9 : decode cX8_bookAll 9 = .ok (.iconst (-1), 1) := by decide +kernel
theorem dX8_bookAll_10 : decode cX8_bookAll 10 = .ok (.if_icmp .eq 8, 3) := by decide +kernel
theorem dX8_bookAll_13 : decode cX8_bookAll 13 = .ok (.bipush (-100), 2) := by decide +kernel
theorem dX8_bookAll_15 : decode cX8_bookAll 15 = .ok (.iload_n 1, 1) := by decide +kernel
theorem dX8_bookAll_16 : decode cX8_bookAll 16 = .ok (.isub, 1) := by decide +kernel
theorem dX8_bookAll_17 : decode cX8_bookAll 17 = .ok (.ireturn, 1) := by decide +kernel
theorem dX8_bookAll_18 : decode cX8_bookAll 18 = .ok (.aload_n 0, 1) := by decide +kernel
theorem dX8_bookAll_19 : decode cX8_bookAll 19 = .ok (.getfield 16, 3) := by decide +kernel
theorem dX8_bookAll_22 : decode cX8_bookAll 22 = .ok (.aload_n 0, 1) := by decide +kernel
theorem dX8_bookAll_23 : decode cX8_bookAll 23 = .ok (.getfield 12, 3) := by decide +kernel
theorem dX8_bookAll_26 : decode cX8_bookAll 26 = .ok (.invokevirtual 202, 3) := by decide +kernel
theorem dX8_bookAll_29 : decode cX8_bookAll 29 = .ok (.iconst 0, 1) := by decide +kernel
theorem dX8_bookAll_30 : decode cX8_bookAll 30 = .ok (.istore_n 2, 1) := by decide +kernel
theorem dX8_bookAll_31 : decode cX8_bookAll 31 = .ok (.iload_n 2, 1) := by decide +kernel
theorem dX8_bookAll_32 : decode cX8_bookAll 32 = .ok (.aload_n 0, 1) := by decide +kernel
theorem dX8_bookAll_33 : decode cX8_bookAll 33 = .ok (.getfield 36, 3) := by decide +kernel
theorem dX8_bookAll_36 : decode cX8_bookAll 36 = .ok (.getfield 205, 3) := by decide +kernel
theorem dX8_bookAll_39 : decode cX8_bookAll 39 = .ok (.if_icmp .ge 96, 3) := by decide +kernel
theorem dX8_bookAll_42 : decode cX8_bookAll 42 = .ok (.aload_n 0, 1) := by decide +kernel
theorem dX8_bookAll_43 : decode cX8_bookAll 43 = .ok (.aload_n 0, 1) := by decide +kernel
theorem dX8_bookAll_44 : decode cX8_bookAll 44 = .ok (.getfield 36, 3) := by decide +kernel
theorem dX8_bookAll_47 : decode cX8_bookAll 47 = .ok (.getfield 208, 3) := by decide +kernel
theorem dX8_bookAll_50 : decode cX8_bookAll 50 = .ok (.iload_n 2, 1) := by decide +kernel
theorem dX8_bookAll_51 : decode cX8_bookAll 51 = .ok (.iaload, 1) := by decide +kernel
theorem dX8_bookAll_52 : decode cX8_bookAll 52 = .ok (.aload_n 0, 1) := by decide +kernel
theorem dX8_bookAll_53 : decode cX8_bookAll 53 = .ok (.getfield 36, 3) := by decide +kernel
theorem dX8_bookAll_56 : decode cX8_bookAll 56 = .ok (.getfield 209, 3) := by decide +kernel
theorem dX8_bookAll_59 : decode cX8_bookAll 59 = .ok (.iload_n 2, 1) := by decide +kernel
theorem dX8_bookAll_60 : decode cX8_bookAll 60 = .ok (.iaload, 1) := by decide +kernel
theorem dX8_bookAll_61 : decode cX8_bookAll 61 = .ok (.aload_n 0, 1) := by decide +kernel
theorem dX8_bookAll_62 : decode cX8_bookAll 62 = .ok (.getfield 36, 3) := by decide +kernel
theorem dX8_bookAll_65 : decode cX8_bookAll 65 = .ok (.getfield 210, 3) := by decide +kernel
theorem dX8_bookAll_68 : decode cX8_bookAll 68 = .ok (.iload_n 2, 1) := by decide +kernel
theorem dX8_bookAll_69 : decode cX8_bookAll 69 = .ok (.iaload, 1) := by decide +kernel
theorem dX8_bookAll_70 : decode cX8_bookAll 70 = .ok (.invokevirtual 102, 3) := by decide +kernel
theorem dX8_bookAll_73 : decode cX8_bookAll 73 = .ok (.istore_n 3, 1) := by decide +kernel
theorem dX8_bookAll_74 : decode cX8_bookAll 74 = .ok (.iload_n 3, 1) := by decide +kernel
theorem dX8_bookAll_75 : decode cX8_bookAll 75 = .ok (.ifCond .eq 16, 3) := by decide +kernel
theorem dX8_bookAll_78 : decode cX8_bookAll 78 = .ok (.aload_n 0, 1) := by decide +kernel
theorem dX8_bookAll_79 : decode cX8_bookAll 79 = .ok (.getfield 12, 3) := by decide +kernel
theorem dX8_bookAll_82 : decode cX8_bookAll 82 = .ok (.aload_n 0, 1) := by decide +kernel
theorem dX8_bookAll_83 : decode cX8_bookAll 83 = .ok (.getfield 16, 3) := by decide +kernel
theorem dX8_bookAll_86 : decode cX8_bookAll 86 = .ok (.invokevirtual 202, 3) := by decide +kernel
theorem dX8_bookAll_89 : decode cX8_bookAll 89 = .ok (.iload_n 3, 1) := by decide +kernel
theorem dX8_bookAll_90 : decode cX8_bookAll 90 = .ok (.ireturn, 1) := by decide +kernel
theorem dX8_bookAll_91 : decode cX8_bookAll 91 = .ok (.aload_n 0, 1) := by decide +kernel
theorem dX8_bookAll_92 : decode cX8_bookAll 92 = .ok (.getfield 12, 3) := by decide +kernel
theorem dX8_bookAll_95 : decode cX8_bookAll 95 = .ok (.getfield 106, 3) := by decide +kernel
theorem dX8_bookAll_98 : decode cX8_bookAll 98 = .ok (.aload_n 0, 1) := by decide +kernel
theorem dX8_bookAll_99 : decode cX8_bookAll 99 = .ok (.getfield 36, 3) := by decide +kernel
theorem dX8_bookAll_102 : decode cX8_bookAll 102 = .ok (.getfield 208, 3) := by decide +kernel
theorem dX8_bookAll_105 : decode cX8_bookAll 105 = .ok (.iload_n 2, 1) := by decide +kernel
theorem dX8_bookAll_106 : decode cX8_bookAll 106 = .ok (.iaload, 1) := by decide +kernel
theorem dX8_bookAll_107 : decode cX8_bookAll 107 = .ok (.aload_n 0, 1) := by decide +kernel
theorem dX8_bookAll_108 : decode cX8_bookAll 108 = .ok (.getfield 36, 3) := by decide +kernel
theorem dX8_bookAll_111 : decode cX8_bookAll 111 = .ok (.getfield 209, 3) := by decide +kernel
theorem dX8_bookAll_114 : decode cX8_bookAll 114 = .ok (.iload_n 2, 1) := by decide +kernel
theorem dX8_bookAll_115 : decode cX8_bookAll 115 = .ok (.iaload, 1) := by decide +kernel
theorem dX8_bookAll_116 : decode cX8_bookAll 116 = .ok (.aload_n 0, 1) := by decide +kernel
theorem dX8_bookAll_117 : decode cX8_bookAll 117 = .ok (.getfield 36, 3) := by decide +kernel
theorem dX8_bookAll_120 : decode cX8_bookAll 120 = .ok (.getfield 210, 3) := by decide +kernel
theorem dX8_bookAll_123 : decode cX8_bookAll 123 = .ok (.iload_n 2, 1) := by decide +kernel
theorem dX8_bookAll_124 : decode cX8_bookAll 124 = .ok (.iaload, 1) := by decide +kernel
theorem dX8_bookAll_125 : decode cX8_bookAll 125 = .ok (.invokevirtual 110, 3) := by decide +kernel
theorem dX8_bookAll_128 : decode cX8_bookAll 128 = .ok (.pop, 1) := by decide +kernel
theorem dX8_bookAll_129 : decode cX8_bookAll 129 = .ok (.iinc 2 1, 3) := by decide +kernel
theorem dX8_bookAll_132 : decode cX8_bookAll 132 = .ok (.goto (-101), 3) := by decide +kernel
theorem dX8_bookAll_135 : decode cX8_bookAll 135 = .ok (.aload_n 0, 1) := by decide +kernel
theorem dX8_bookAll_136 : decode cX8_bookAll 136 = .ok (.getfield 29, 3) := by decide +kernel
theorem dX8_bookAll_139 : decode cX8_bookAll 139 = .ok (.aload_n 0, 1) := by decide +kernel
theorem dX8_bookAll_140 : decode cX8_bookAll 140 = .ok (.getfield 16, 3) := by decide +kernel
theorem dX8_bookAll_143 : decode cX8_bookAll 143 = .ok (.invokevirtual 72, 3) := by decide +kernel
theorem dX8_bookAll_146 : decode cX8_bookAll 146 = .ok (.aload_n 0, 1) := by decide +kernel
theorem dX8_bookAll_147 : decode cX8_bookAll 147 = .ok (.getfield 36, 3) := by decide +kernel
theorem dX8_bookAll_150 : decode cX8_bookAll 150 = .ok (.getfield 205, 3) := by decide +kernel
theorem dX8_bookAll_153 : decode cX8_bookAll 153 = .ok (.ireturn, 1) := by decide +kernel
abbrev rX8_bookAll : Room := { frames := 6, cells := 0, slots := 0, locals := 145 }
set_option maxRecDepth 20000 in
theorem gd_X8_bookAll_L31_body {x : Cx} {y : Cy} (hy : Inj y) (h : OkM x y cX8_bookAll RX8 4 (some .int) rX8_bookAll) (kx1 : Mem → Ans) (hx1 : ∀ M0 : Mem, G x y 135 [(0, .ref (y.2.1 141))] [] M0 (kx1 M0)) (kb : Int32 → Mem → Ans) (hb : ∀ (b2 : Int32), ∀ M0 : Mem, G x y 31 [(0, .ref (y.2.1 141)), (2, .int b2)] [] M0 (kb b2 M0)) (a2 : Int32) (M : Mem) : G x y 31 [(0, .ref (y.2.1 141)), (2, .int a2)] [] M (d_X8_bookAll_L31_body kx1 kb a2 M) := by
  unfold d_X8_bookAll_L31_body
  refine G_iload_n (pc := 31) h.1 dX8_bookAll_31 rfl 1 rfl ?_
  refine G_aload_n (pc := 32) h.1 dX8_bookAll_32 rfl 0 rfl ?_
  refine G_get (pc := 33) (v := .ref (y.2.1 136)) h.1 fl_X8_36 lN141 (eM141 _) rfl dX8_bookAll_33 ?_
  refine G_get (pc := 36) (v := .int (M 136 2)) h.1 fl_X8_205 lN136 (eM136 _) rfl dX8_bookAll_36 ?_
  refine G_icmp_ge (pc := 39) (tgt := 135) h.1 dX8_bookAll_39 (by decide) ?_ ?_
  · exact G_sub [0] rfl (hx1 M)
  · refine G_aload_n (pc := 42) h.1 dX8_bookAll_42 rfl 0 rfl ?_
    refine G_aload_n (pc := 43) h.1 dX8_bookAll_43 rfl 0 rfl ?_
    refine G_get (pc := 44) (v := .ref (y.2.1 136)) h.1 fl_X8_36 lN141 (eM141 _) rfl dX8_bookAll_44 ?_
    refine G_get (pc := 47) (v := .ref (y.2.1 138)) h.1 fl_X8_208 lN136 (eM136 _) rfl dX8_bookAll_47 ?_
    refine G_iload_n (pc := 50) h.1 dX8_bookAll_50 rfl 1 rfl ?_
    refine G_iald (pc := 51) h.1 lN138 (eM138 _) dX8_bookAll_51 ?_
    refine G_aload_n (pc := 52) h.1 dX8_bookAll_52 rfl 0 rfl ?_
    refine G_get (pc := 53) (v := .ref (y.2.1 136)) h.1 fl_X8_36 lN141 (eM141 _) rfl dX8_bookAll_53 ?_
    refine G_get (pc := 56) (v := .ref (y.2.1 139)) h.1 fl_X8_209 lN136 (eM136 _) rfl dX8_bookAll_56 ?_
    refine G_iload_n (pc := 59) h.1 dX8_bookAll_59 rfl 1 rfl ?_
    refine G_iald (pc := 60) h.1 lN139 (eM139 _) dX8_bookAll_60 ?_
    refine G_aload_n (pc := 61) h.1 dX8_bookAll_61 rfl 0 rfl ?_
    refine G_get (pc := 62) (v := .ref (y.2.1 136)) h.1 fl_X8_36 lN141 (eM141 _) rfl dX8_bookAll_62 ?_
    refine G_get (pc := 65) (v := .ref (y.2.1 140)) h.1 fl_X8_210 lN136 (eM136 _) rfl dX8_bookAll_65 ?_
    refine G_iload_n (pc := 68) h.1 dX8_bookAll_68 rfl 1 rfl ?_
    refine G_iald (pc := 69) h.1 lN140 (eM140 _) dX8_bookAll_69 ?_
    refine G_callV (pc := 70) (As := [.int (M 138 (a2).toNatClampNeg), .int (M 139 (a2).toNatClampNeg), .int (M 140 (a2).toNatClampNeg)]) (rest := []) h.1 h.2.2.1 lk_X8_102 lN141 (eM141 _) rfl rfl (c_X8_errorOfBooking x.1.2.1 y hy (M 138 (a2).toNatClampNeg) (M 139 (a2).toNatClampNeg) (M 140 (a2).toNatClampNeg) M) rfl rfl (Nat.le_of_ble_eq_true rfl) ⟨rfl, rfl, Nat.le_of_ble_eq_true rfl, Nat.le_of_ble_eq_true rfl⟩ dX8_bookAll_70 (fun r6 M5 => ?_)
    refine G_istore_n (pc := 73) h.1 h.2.1 [(3, .int r6), (0, .ref (y.2.1 141)), (2, .int a2)] dX8_bookAll_73 rfl (by decide) rfl ?_
    refine G_iload_n (pc := 74) h.1 dX8_bookAll_74 rfl 0 rfl ?_
    refine G_if_eq (pc := 75) (tgt := 91) h.1 dX8_bookAll_75 (by decide) ?_ ?_
    · refine G_aload_n (pc := 91) h.1 dX8_bookAll_91 rfl 1 rfl ?_
      refine G_get (pc := 92) (v := .ref (y.2.1 (sI 0 0))) h.1 fl_X8_12 lN141 (eM141 _) rfl dX8_bookAll_92 ?_
      refine G_get (pc := 95) (v := .ref (y.2.1 (sI 0 6))) h.1 fl_X8_106 (ids_s h7_0 0 (by decide)) (eS0 h7_0 _) rfl dX8_bookAll_95 ?_
      refine G_aload_n (pc := 98) h.1 dX8_bookAll_98 rfl 1 rfl ?_
      refine G_get (pc := 99) (v := .ref (y.2.1 136)) h.1 fl_X8_36 lN141 (eM141 _) rfl dX8_bookAll_99 ?_
      refine G_get (pc := 102) (v := .ref (y.2.1 138)) h.1 fl_X8_208 lN136 (eM136 _) rfl dX8_bookAll_102 ?_
      refine G_iload_n (pc := 105) h.1 dX8_bookAll_105 rfl 2 rfl ?_
      refine G_iald (pc := 106) h.1 lN138 (eM138 _) dX8_bookAll_106 ?_
      refine G_aload_n (pc := 107) h.1 dX8_bookAll_107 rfl 1 rfl ?_
      refine G_get (pc := 108) (v := .ref (y.2.1 136)) h.1 fl_X8_36 lN141 (eM141 _) rfl dX8_bookAll_108 ?_
      refine G_get (pc := 111) (v := .ref (y.2.1 139)) h.1 fl_X8_209 lN136 (eM136 _) rfl dX8_bookAll_111 ?_
      refine G_iload_n (pc := 114) h.1 dX8_bookAll_114 rfl 2 rfl ?_
      refine G_iald (pc := 115) h.1 lN139 (eM139 _) dX8_bookAll_115 ?_
      refine G_aload_n (pc := 116) h.1 dX8_bookAll_116 rfl 1 rfl ?_
      refine G_get (pc := 117) (v := .ref (y.2.1 136)) h.1 fl_X8_36 lN141 (eM141 _) rfl dX8_bookAll_117 ?_
      refine G_get (pc := 120) (v := .ref (y.2.1 140)) h.1 fl_X8_210 lN136 (eM136 _) rfl dX8_bookAll_120 ?_
      refine G_iload_n (pc := 123) h.1 dX8_bookAll_123 rfl 2 rfl ?_
      refine G_iald (pc := 124) h.1 lN140 (eM140 _) dX8_bookAll_124 ?_
      refine G_callV (pc := 125) (As := [.int (M5 138 (a2).toNatClampNeg), .int (M5 139 (a2).toNatClampNeg), .int (M5 140 (a2).toNatClampNeg)]) (rest := []) h.1 h.2.2.1 lk_X8_110 (ids_s h7_0 6 (by decide)) (eS6 h7_0 _) rfl rfl (c_X0_append x.1.2.1 y hy 0 h7_0 (M5 138 (a2).toNatClampNeg) (M5 139 (a2).toNatClampNeg) (M5 140 (a2).toNatClampNeg) M5) rfl rfl (Nat.le_of_ble_eq_true rfl) ⟨rfl, rfl, Nat.le_of_ble_eq_true rfl, Nat.le_of_ble_eq_true rfl⟩ dX8_bookAll_125 (fun r8 M7 => ?_)
      refine G_pop (pc := 128) h.1 dX8_bookAll_128 rfl ?_
      refine G_iinc (pc := 129) (v := a2 + (1)) h.1 h.2.1 (fun v9 => [(2, .int v9), (3, .int r6), (0, .ref (y.2.1 141))]) dX8_bookAll_129 (by decide) 2 rfl rfl (fun _ => rfl) (fun v9 => ?_)
      refine G_goto (pc := 132) (tgt := 31) h.1 dX8_bookAll_132 (by decide) ?_
      exact G_sub [2, 0] rfl (hb v9 M7)
    · refine G_aload_n (pc := 78) h.1 dX8_bookAll_78 rfl 1 rfl ?_
      refine G_get (pc := 79) (v := .ref (y.2.1 (sI 0 0))) h.1 fl_X8_12 lN141 (eM141 _) rfl dX8_bookAll_79 ?_
      refine G_aload_n (pc := 82) h.1 dX8_bookAll_82 rfl 1 rfl ?_
      refine G_get (pc := 83) (v := .ref (y.2.1 (sI 1 0))) h.1 fl_X8_16 lN141 (eM141 _) rfl dX8_bookAll_83 ?_
      refine G_callVv (pc := 86) (As := [.ref (y.2.1 (sI 1 0))]) (rest := []) h.1 h.2.2.1 lk_X8_202 (ids_s h7_0 0 (by decide)) (eS0 h7_0 _) rfl rfl (c_X5_copyFrom x.1.2.1 y hy 0 1 h7_0 h7_1 M5) rfl rfl (Nat.le_of_ble_eq_true rfl) ⟨rfl, rfl, Nat.le_of_ble_eq_true rfl, Nat.le_of_ble_eq_true rfl⟩ dX8_bookAll_86 (fun r11 M10 => ?_)
      refine G_iload_n (pc := 89) h.1 dX8_bookAll_89 rfl 0 rfl ?_
      exact G_ret (pc := 90) h rfl dX8_bookAll_90
set_option maxRecDepth 20000 in
theorem gd_X8_bookAll_L31 {x : Cx} {y : Cy} (hy : Inj y) (h : OkM x y cX8_bookAll RX8 4 (some .int) rX8_bookAll) (kx1 : Mem → Ans) (hx1 : ∀ M0 : Mem, G x y 135 [(0, .ref (y.2.1 141))] [] M0 (kx1 M0)) : ∀ (n : Nat) (a2 : Int32) (M : Mem), G x y 31 [(0, .ref (y.2.1 141)), (2, .int a2)] [] M (d_X8_bookAll_L31 kx1 n a2 M) := by
  intro n
  induction n with
  | zero => intro a2 M; exact G_none
  | succ n ih => intro a2 M; exact gd_X8_bookAll_L31_body hy h kx1 hx1 _ ih a2 M
set_option maxRecDepth 20000 in
theorem c_X8_bookAll (l : Launch) (y : Cy) (hy : Inj y) (M : Mem) : CT l y yX8_bookAll cX8_bookAll 4 (some .int) rX8_bookAll [.ref (y.2.1 141)] M (d_X8_bookAll M) := by
  refine CT_of (by decide) hy (Nat.le_of_ble_eq_true rfl) (fun x hxl h => ?_)
  show G x y 0 [(0, .ref (y.2.1 141))] [] M _
  unfold d_X8_bookAll
  refine G_aload_n (pc := 0) h.1 dX8_bookAll_0 rfl 0 rfl ?_
  refine G_get (pc := 1) (v := .ref (y.2.1 136)) h.1 fl_X8_36 lN141 (eM141 _) rfl dX8_bookAll_1 ?_
  refine G_callV (pc := 4) (As := []) (rest := []) h.1 h.2.2.1 lk_X8_199 lN136 (eM136 _) rfl rfl (c_X6_read x.1.2.1 y hy M) rfl rfl (Nat.le_of_ble_eq_true rfl) ⟨rfl, rfl, Nat.le_of_ble_eq_true rfl, Nat.le_of_ble_eq_true rfl⟩ dX8_bookAll_4 (fun r2 M1 => ?_)
  refine G_istore_n (pc := 7) h.1 h.2.1 [(1, .int r2), (0, .ref (y.2.1 141))] dX8_bookAll_7 rfl (by decide) rfl ?_
  refine G_iload_n (pc := 8) h.1 dX8_bookAll_8 rfl 0 rfl ?_
  refine G_iconst (pc := 9) (v := (-1)) h.1 dX8_bookAll_9 (by decide) ?_
  refine G_icmp_eq (pc := 10) (tgt := 18) h.1 dX8_bookAll_10 (by decide) ?_ ?_
  · refine G_aload_n (pc := 18) h.1 dX8_bookAll_18 rfl 1 rfl ?_
    refine G_get (pc := 19) (v := .ref (y.2.1 (sI 1 0))) h.1 fl_X8_16 lN141 (eM141 _) rfl dX8_bookAll_19 ?_
    refine G_aload_n (pc := 22) h.1 dX8_bookAll_22 rfl 1 rfl ?_
    refine G_get (pc := 23) (v := .ref (y.2.1 (sI 0 0))) h.1 fl_X8_12 lN141 (eM141 _) rfl dX8_bookAll_23 ?_
    refine G_callVv (pc := 26) (As := [.ref (y.2.1 (sI 0 0))]) (rest := []) h.1 h.2.2.1 lk_X8_202 (ids_s h7_1 0 (by decide)) (eS0 h7_1 _) rfl rfl (c_X5_copyFrom x.1.2.1 y hy 1 0 h7_1 h7_0 M1) rfl rfl (Nat.le_of_ble_eq_true rfl) ⟨rfl, rfl, Nat.le_of_ble_eq_true rfl, Nat.le_of_ble_eq_true rfl⟩ dX8_bookAll_26 (fun r4 M3 => ?_)
    refine G_iconst (pc := 29) (v := (0)) h.1 dX8_bookAll_29 (by decide) ?_
    refine G_istore_n (pc := 30) h.1 h.2.1 [(2, .int (0 : Int32)), (1, .int r2), (0, .ref (y.2.1 141))] dX8_bookAll_30 rfl (by decide) rfl ?_
    refine G_sub [2, 0] rfl (gd_X8_bookAll_L31 hy h _ (fun M12 => ?_) fuelN (0 : Int32) M3)
    refine G_aload_n (pc := 135) h.1 dX8_bookAll_135 rfl 0 rfl ?_
    refine G_get (pc := 136) (v := .ref (y.2.1 134)) h.1 fl_X8_29 lN141 (eM141 _) rfl dX8_bookAll_136 ?_
    refine G_aload_n (pc := 139) h.1 dX8_bookAll_139 rfl 0 rfl ?_
    refine G_get (pc := 140) (v := .ref (y.2.1 (sI 1 0))) h.1 fl_X8_16 lN141 (eM141 _) rfl dX8_bookAll_140 ?_
    refine G_callVv (pc := 143) (As := [.ref (y.2.1 (sI 1 0))]) (rest := []) h.1 h.2.2.1 lk_X8_72 lN134 (eM134 _) rfl rfl (c_X2_push x.1.2.1 y hy 1 h7_1 M12) rfl rfl (Nat.le_of_ble_eq_true rfl) ⟨rfl, rfl, Nat.le_of_ble_eq_true rfl, Nat.le_of_ble_eq_true rfl⟩ dX8_bookAll_143 (fun r14 M13 => ?_)
    refine G_aload_n (pc := 146) h.1 dX8_bookAll_146 rfl 0 rfl ?_
    refine G_get (pc := 147) (v := .ref (y.2.1 136)) h.1 fl_X8_36 lN141 (eM141 _) rfl dX8_bookAll_147 ?_
    refine G_get (pc := 150) (v := .int (M13 136 2)) h.1 fl_X8_205 lN136 (eM136 _) rfl dX8_bookAll_150 ?_
    exact G_ret (pc := 153) h rfl dX8_bookAll_153
  · refine G_bipush (pc := 13) (v := (-100)) h.1 dX8_bookAll_13 (by decide) ?_
    refine G_iload_n (pc := 15) h.1 dX8_bookAll_15 rfl 0 rfl ?_
    refine G_isub (pc := 16) h.1 dX8_bookAll_16 ?_
    exact G_ret (pc := 17) h rfl dX8_bookAll_17
theorem dX8_undo_0 : decode cX8_undo 0 = .ok (.aload_n 0, 1) := by decide +kernel
theorem dX8_undo_1 : decode cX8_undo 1 = .ok (.getfield 29, 3) := by decide +kernel
theorem dX8_undo_4 : decode cX8_undo 4 = .ok (.getfield 211, 3) := by decide +kernel
theorem dX8_undo_7 : decode cX8_undo 7 = .ok (.ifCond .ne 6, 3) := by decide +kernel
theorem dX8_undo_10 : decode cX8_undo 10 = .ok (.bipush (-5), 2) := by decide +kernel
theorem dX8_undo_12 : decode cX8_undo 12 = .ok (.ireturn, 1) := by decide +kernel
theorem dX8_undo_13 : decode cX8_undo 13 = .ok (.aload_n 0, 1) := by decide +kernel
theorem dX8_undo_14 : decode cX8_undo 14 = .ok (.getfield 29, 3) := by decide +kernel
theorem dX8_undo_17 : decode cX8_undo 17 = .ok (.aload_n 0, 1) := by decide +kernel
theorem dX8_undo_18 : decode cX8_undo 18 = .ok (.getfield 12, 3) := by decide +kernel
theorem dX8_undo_21 : decode cX8_undo 21 = .ok (.invokevirtual 212, 3) := by decide +kernel
theorem dX8_undo_24 : decode cX8_undo 24 = .ok (.aload_n 0, 1) := by decide +kernel
theorem dX8_undo_25 : decode cX8_undo 25 = .ok (.getfield 29, 3) := by decide +kernel
theorem dX8_undo_28 : decode cX8_undo 28 = .ok (.getfield 211, 3) := by decide +kernel
theorem dX8_undo_31 : decode cX8_undo 31 = .ok (.ireturn, 1) := by decide +kernel
abbrev rX8_undo : Room := { frames := 4, cells := 0, slots := 0, locals := 82 }
set_option maxRecDepth 20000 in
theorem c_X8_undo (l : Launch) (y : Cy) (hy : Inj y) (M : Mem) : CT l y yX8_undo cX8_undo 1 (some .int) rX8_undo [.ref (y.2.1 141)] M (d_X8_undo M) := by
  refine CT_of (by decide) hy (Nat.le_of_ble_eq_true rfl) (fun x hxl h => ?_)
  show G x y 0 [(0, .ref (y.2.1 141))] [] M _
  unfold d_X8_undo
  refine G_aload_n (pc := 0) h.1 dX8_undo_0 rfl 0 rfl ?_
  refine G_get (pc := 1) (v := .ref (y.2.1 134)) h.1 fl_X8_29 lN141 (eM141 _) rfl dX8_undo_1 ?_
  refine G_get (pc := 4) (v := .int (M 134 1)) h.1 fl_X8_211 lN134 (eM134 _) rfl dX8_undo_4 ?_
  refine G_if_ne (pc := 7) (tgt := 13) h.1 dX8_undo_7 (by decide) ?_ ?_
  · refine G_aload_n (pc := 13) h.1 dX8_undo_13 rfl 0 rfl ?_
    refine G_get (pc := 14) (v := .ref (y.2.1 134)) h.1 fl_X8_29 lN141 (eM141 _) rfl dX8_undo_14 ?_
    refine G_aload_n (pc := 17) h.1 dX8_undo_17 rfl 0 rfl ?_
    refine G_get (pc := 18) (v := .ref (y.2.1 (sI 0 0))) h.1 fl_X8_12 lN141 (eM141 _) rfl dX8_undo_18 ?_
    refine G_callVv (pc := 21) (As := [.ref (y.2.1 (sI 0 0))]) (rest := []) h.1 h.2.2.1 lk_X8_212 lN134 (eM134 _) rfl rfl (c_X2_popInto x.1.2.1 y hy 0 h7_0 M) rfl rfl (Nat.le_of_ble_eq_true rfl) ⟨rfl, rfl, Nat.le_of_ble_eq_true rfl, Nat.le_of_ble_eq_true rfl⟩ dX8_undo_21 (fun r2 M1 => ?_)
    refine G_aload_n (pc := 24) h.1 dX8_undo_24 rfl 0 rfl ?_
    refine G_get (pc := 25) (v := .ref (y.2.1 134)) h.1 fl_X8_29 lN141 (eM141 _) rfl dX8_undo_25 ?_
    refine G_get (pc := 28) (v := .int (M1 134 1)) h.1 fl_X8_211 lN134 (eM134 _) rfl dX8_undo_28 ?_
    exact G_ret (pc := 31) h rfl dX8_undo_31
  · refine G_bipush (pc := 10) (v := (-5)) h.1 dX8_undo_10 (by decide) ?_
    exact G_ret (pc := 12) h rfl dX8_undo_12
theorem dX8_keep_0 : decode cX8_keep 0 = .ok (.aload_n 0, 1) := by decide +kernel
theorem dX8_keep_1 : decode cX8_keep 1 = .ok (.getfield 19, 3) := by decide +kernel
theorem dX8_keep_4 : decode cX8_keep 4 = .ok (.aload_n 0, 1) := by decide +kernel
theorem dX8_keep_5 : decode cX8_keep 5 = .ok (.getfield 12, 3) := by decide +kernel
theorem dX8_keep_8 : decode cX8_keep 8 = .ok (.invokevirtual 202, 3) := by decide +kernel
theorem dX8_keep_11 : decode cX8_keep 11 = .ok (.aload_n 0, 1) := by decide +kernel
theorem dX8_keep_12 : decode cX8_keep 12 = .ok (.iconst 1, 1) := by decide +kernel
theorem dX8_keep_13 : decode cX8_keep 13 = .ok (.putfield 22, 3) := by decide +kernel
theorem dX8_keep_16 : decode cX8_keep 16 = .ok (.aload_n 0, 1) := by decide +kernel
theorem dX8_keep_17 : decode cX8_keep 17 = .ok (.getfield 12, 3) := by decide +kernel
theorem dX8_keep_20 : decode cX8_keep 20 = .ok (.getfield 180, 3) := by decide +kernel
theorem dX8_keep_23 : decode cX8_keep 23 = .ok (.ireturn, 1) := by decide +kernel
abbrev rX8_keep : Room := { frames := 3, cells := 0, slots := 0, locals := 60 }
set_option maxRecDepth 20000 in
theorem c_X8_keep (l : Launch) (y : Cy) (hy : Inj y) (M : Mem) : CT l y yX8_keep cX8_keep 1 (some .int) rX8_keep [.ref (y.2.1 141)] M (d_X8_keep M) := by
  refine CT_of (by decide) hy (Nat.le_of_ble_eq_true rfl) (fun x hxl h => ?_)
  show G x y 0 [(0, .ref (y.2.1 141))] [] M _
  unfold d_X8_keep
  refine G_aload_n (pc := 0) h.1 dX8_keep_0 rfl 0 rfl ?_
  refine G_get (pc := 1) (v := .ref (y.2.1 (sI 2 0))) h.1 fl_X8_19 lN141 (eM141 _) rfl dX8_keep_1 ?_
  refine G_aload_n (pc := 4) h.1 dX8_keep_4 rfl 0 rfl ?_
  refine G_get (pc := 5) (v := .ref (y.2.1 (sI 0 0))) h.1 fl_X8_12 lN141 (eM141 _) rfl dX8_keep_5 ?_
  refine G_callVv (pc := 8) (As := [.ref (y.2.1 (sI 0 0))]) (rest := []) h.1 h.2.2.1 lk_X8_202 (ids_s h7_2 0 (by decide)) (eS0 h7_2 _) rfl rfl (c_X5_copyFrom x.1.2.1 y hy 2 0 h7_2 h7_0 M) rfl rfl (Nat.le_of_ble_eq_true rfl) ⟨rfl, rfl, Nat.le_of_ble_eq_true rfl, Nat.le_of_ble_eq_true rfl⟩ dX8_keep_8 (fun r2 M1 => ?_)
  refine G_aload_n (pc := 11) h.1 dX8_keep_11 rfl 0 rfl ?_
  refine G_iconst (pc := 12) (v := (1)) h.1 dX8_keep_12 (by decide) ?_
  refine G_put (pc := 13) h.1 fp_X8_22 lN141 (fun m => eM141 m) (fun _ => rfl) (fun _ => Nat.le_of_ble_eq_true rfl) rfl rfl dX8_keep_13 (fun M3 => ?_)
  refine G_aload_n (pc := 16) h.1 dX8_keep_16 rfl 0 rfl ?_
  refine G_get (pc := 17) (v := .ref (y.2.1 (sI 0 0))) h.1 fl_X8_12 lN141 (eM141 _) rfl dX8_keep_17 ?_
  refine G_get (pc := 20) (v := .int (M3 (sI 0 0) 0)) h.1 fl_X8_180 (ids_s h7_0 0 (by decide)) (eS0 h7_0 _) rfl dX8_keep_20 ?_
  exact G_ret (pc := 23) h rfl dX8_keep_23
theorem dX8_restore_0 : decode cX8_restore 0 = .ok (.aload_n 0, 1) := by decide +kernel
theorem dX8_restore_1 : decode cX8_restore 1 = .ok (.getfield 22, 3) := by decide +kernel
theorem dX8_restore_4 : decode cX8_restore 4 = .ok (.ifCond .ne 6, 3) := by decide +kernel
theorem dX8_restore_7 : decode cX8_restore 7 = .ok (.bipush (-5), 2) := by decide +kernel
theorem dX8_restore_9 : decode cX8_restore 9 = .ok (.ireturn, 1) := by decide +kernel
theorem dX8_restore_10 : decode cX8_restore 10 = .ok (.aload_n 0, 1) := by decide +kernel
theorem dX8_restore_11 : decode cX8_restore 11 = .ok (.getfield 29, 3) := by decide +kernel
theorem dX8_restore_14 : decode cX8_restore 14 = .ok (.aload_n 0, 1) := by decide +kernel
theorem dX8_restore_15 : decode cX8_restore 15 = .ok (.getfield 12, 3) := by decide +kernel
theorem dX8_restore_18 : decode cX8_restore 18 = .ok (.invokevirtual 72, 3) := by decide +kernel
theorem dX8_restore_21 : decode cX8_restore 21 = .ok (.aload_n 0, 1) := by decide +kernel
theorem dX8_restore_22 : decode cX8_restore 22 = .ok (.getfield 12, 3) := by decide +kernel
theorem dX8_restore_25 : decode cX8_restore 25 = .ok (.aload_n 0, 1) := by decide +kernel
theorem dX8_restore_26 : decode cX8_restore 26 = .ok (.getfield 19, 3) := by decide +kernel
theorem dX8_restore_29 : decode cX8_restore 29 = .ok (.invokevirtual 202, 3) := by decide +kernel
theorem dX8_restore_32 : decode cX8_restore 32 = .ok (.aload_n 0, 1) := by decide +kernel
theorem dX8_restore_33 : decode cX8_restore 33 = .ok (.getfield 12, 3) := by decide +kernel
theorem dX8_restore_36 : decode cX8_restore 36 = .ok (.getfield 180, 3) := by decide +kernel
theorem dX8_restore_39 : decode cX8_restore 39 = .ok (.ireturn, 1) := by decide +kernel
abbrev rX8_restore : Room := { frames := 4, cells := 0, slots := 0, locals := 82 }
set_option maxRecDepth 20000 in
theorem c_X8_restore (l : Launch) (y : Cy) (hy : Inj y) (M : Mem) : CT l y yX8_restore cX8_restore 1 (some .int) rX8_restore [.ref (y.2.1 141)] M (d_X8_restore M) := by
  refine CT_of (by decide) hy (Nat.le_of_ble_eq_true rfl) (fun x hxl h => ?_)
  show G x y 0 [(0, .ref (y.2.1 141))] [] M _
  unfold d_X8_restore
  refine G_aload_n (pc := 0) h.1 dX8_restore_0 rfl 0 rfl ?_
  refine G_get (pc := 1) (v := .int (M 141 3)) h.1 fl_X8_22 lN141 (eM141 _) rfl dX8_restore_1 ?_
  refine G_if_ne (pc := 4) (tgt := 10) h.1 dX8_restore_4 (by decide) ?_ ?_
  · refine G_aload_n (pc := 10) h.1 dX8_restore_10 rfl 0 rfl ?_
    refine G_get (pc := 11) (v := .ref (y.2.1 134)) h.1 fl_X8_29 lN141 (eM141 _) rfl dX8_restore_11 ?_
    refine G_aload_n (pc := 14) h.1 dX8_restore_14 rfl 0 rfl ?_
    refine G_get (pc := 15) (v := .ref (y.2.1 (sI 0 0))) h.1 fl_X8_12 lN141 (eM141 _) rfl dX8_restore_15 ?_
    refine G_callVv (pc := 18) (As := [.ref (y.2.1 (sI 0 0))]) (rest := []) h.1 h.2.2.1 lk_X8_72 lN134 (eM134 _) rfl rfl (c_X2_push x.1.2.1 y hy 0 h7_0 M) rfl rfl (Nat.le_of_ble_eq_true rfl) ⟨rfl, rfl, Nat.le_of_ble_eq_true rfl, Nat.le_of_ble_eq_true rfl⟩ dX8_restore_18 (fun r2 M1 => ?_)
    refine G_aload_n (pc := 21) h.1 dX8_restore_21 rfl 0 rfl ?_
    refine G_get (pc := 22) (v := .ref (y.2.1 (sI 0 0))) h.1 fl_X8_12 lN141 (eM141 _) rfl dX8_restore_22 ?_
    refine G_aload_n (pc := 25) h.1 dX8_restore_25 rfl 0 rfl ?_
    refine G_get (pc := 26) (v := .ref (y.2.1 (sI 2 0))) h.1 fl_X8_19 lN141 (eM141 _) rfl dX8_restore_26 ?_
    refine G_callVv (pc := 29) (As := [.ref (y.2.1 (sI 2 0))]) (rest := []) h.1 h.2.2.1 lk_X8_202 (ids_s h7_0 0 (by decide)) (eS0 h7_0 _) rfl rfl (c_X5_copyFrom x.1.2.1 y hy 0 2 h7_0 h7_2 M1) rfl rfl (Nat.le_of_ble_eq_true rfl) ⟨rfl, rfl, Nat.le_of_ble_eq_true rfl, Nat.le_of_ble_eq_true rfl⟩ dX8_restore_29 (fun r4 M3 => ?_)
    refine G_aload_n (pc := 32) h.1 dX8_restore_32 rfl 0 rfl ?_
    refine G_get (pc := 33) (v := .ref (y.2.1 (sI 0 0))) h.1 fl_X8_12 lN141 (eM141 _) rfl dX8_restore_33 ?_
    refine G_get (pc := 36) (v := .int (M3 (sI 0 0) 0)) h.1 fl_X8_180 (ids_s h7_0 0 (by decide)) (eS0 h7_0 _) rfl dX8_restore_36 ?_
    exact G_ret (pc := 39) h rfl dX8_restore_39
  · refine G_bipush (pc := 7) (v := (-5)) h.1 dX8_restore_7 (by decide) ?_
    exact G_ret (pc := 9) h rfl dX8_restore_9
theorem dX8_recipe_0 : decode cX8_recipe 0 = .ok (.aload_n 0, 1) := by decide +kernel
theorem dX8_recipe_1 : decode cX8_recipe 1 = .ok (.getfield 12, 3) := by decide +kernel
theorem dX8_recipe_4 : decode cX8_recipe 4 = .ok (.getfield 62, 3) := by decide +kernel
theorem dX8_recipe_7 : decode cX8_recipe 7 = .ok (.iload_n 1, 1) := by decide +kernel
theorem dX8_recipe_8 : decode cX8_recipe 8 = .ok (.invokevirtual 157, 3) := by decide +kernel
theorem dX8_recipe_11 : decode cX8_recipe 11 = .ok (.ifCond .ne 5, 3) := by decide +kernel
theorem dX8_recipe_14 : decode cX8_recipe 14 = .ok (.iconst (-1), 1) := by decide +kernel
theorem dX8_recipe_15 : decode cX8_recipe 15 = .ok (.ireturn, 1) := by decide +kernel
theorem dX8_recipe_16 : decode cX8_recipe 16 = .ok (.iload_n 2, 1) := by decide +kernel
theorem dX8_recipe_17 : decode cX8_recipe 17 = .ok (.tableswitch 99 0 4 #[35, 48, 61, 74, 87], 35) := by decide +kernel
theorem dX8_recipe_52 : decode cX8_recipe 52 = .ok (.aload_n 0, 1) := by decide +kernel
theorem dX8_recipe_53 : decode cX8_recipe 53 = .ok (.getfield 12, 3) := by decide +kernel
theorem dX8_recipe_56 : decode cX8_recipe 56 = .ok (.getfield 62, 3) := by decide +kernel
theorem dX8_recipe_59 : decode cX8_recipe 59 = .ok (.getfield 215, 3) := by decide +kernel
theorem dX8_recipe_62 : decode cX8_recipe 62 = .ok (.iload_n 1, 1) := by decide +kernel
theorem dX8_recipe_63 : decode cX8_recipe 63 = .ok (.iaload, 1) := by decide +kernel
theorem dX8_recipe_64 : decode cX8_recipe 64 = .ok (.ireturn, 1) := by decide +kernel
theorem dX8_recipe_65 : decode cX8_recipe 65 = .ok (.aload_n 0, 1) := by decide +kernel
theorem dX8_recipe_66 : decode cX8_recipe 66 = .ok (.getfield 12, 3) := by decide +kernel
theorem dX8_recipe_69 : decode cX8_recipe 69 = .ok (.getfield 62, 3) := by decide +kernel
theorem dX8_recipe_72 : decode cX8_recipe 72 = .ok (.getfield 218, 3) := by decide +kernel
theorem dX8_recipe_75 : decode cX8_recipe 75 = .ok (.iload_n 1, 1) := by decide +kernel
theorem dX8_recipe_76 : decode cX8_recipe 76 = .ok (.iaload, 1) := by decide +kernel
theorem dX8_recipe_77 : decode cX8_recipe 77 = .ok (.ireturn, 1) := by decide +kernel
theorem dX8_recipe_78 : decode cX8_recipe 78 = .ok (.aload_n 0, 1) := by decide +kernel
theorem dX8_recipe_79 : decode cX8_recipe 79 = .ok (.getfield 12, 3) := by decide +kernel
theorem dX8_recipe_82 : decode cX8_recipe 82 = .ok (.getfield 62, 3) := by decide +kernel
theorem dX8_recipe_85 : decode cX8_recipe 85 = .ok (.getfield 221, 3) := by decide +kernel
theorem dX8_recipe_88 : decode cX8_recipe 88 = .ok (.iload_n 1, 1) := by decide +kernel
theorem dX8_recipe_89 : decode cX8_recipe 89 = .ok (.iaload, 1) := by decide +kernel
theorem dX8_recipe_90 : decode cX8_recipe 90 = .ok (.ireturn, 1) := by decide +kernel
theorem dX8_recipe_91 : decode cX8_recipe 91 = .ok (.aload_n 0, 1) := by decide +kernel
theorem dX8_recipe_92 : decode cX8_recipe 92 = .ok (.getfield 12, 3) := by decide +kernel
theorem dX8_recipe_95 : decode cX8_recipe 95 = .ok (.getfield 62, 3) := by decide +kernel
theorem dX8_recipe_98 : decode cX8_recipe 98 = .ok (.getfield 224, 3) := by decide +kernel
theorem dX8_recipe_101 : decode cX8_recipe 101 = .ok (.iload_n 1, 1) := by decide +kernel
theorem dX8_recipe_102 : decode cX8_recipe 102 = .ok (.iaload, 1) := by decide +kernel
theorem dX8_recipe_103 : decode cX8_recipe 103 = .ok (.ireturn, 1) := by decide +kernel
theorem dX8_recipe_104 : decode cX8_recipe 104 = .ok (.aload_n 0, 1) := by decide +kernel
theorem dX8_recipe_105 : decode cX8_recipe 105 = .ok (.getfield 12, 3) := by decide +kernel
theorem dX8_recipe_108 : decode cX8_recipe 108 = .ok (.getfield 106, 3) := by decide +kernel
theorem dX8_recipe_111 : decode cX8_recipe 111 = .ok (.iload_n 1, 1) := by decide +kernel
theorem dX8_recipe_112 : decode cX8_recipe 112 = .ok (.invokevirtual 227, 3) := by decide +kernel
theorem dX8_recipe_115 : decode cX8_recipe 115 = .ok (.ireturn, 1) := by decide +kernel
theorem dX8_recipe_116 : decode cX8_recipe 116 = .ok (.bipush (-2), 2) := by decide +kernel
theorem dX8_recipe_118 : decode cX8_recipe 118 = .ok (.ireturn, 1) := by decide +kernel
abbrev rX8_recipe : Room := { frames := 1, cells := 0, slots := 0, locals := 23 }
set_option maxRecDepth 20000 in
theorem c_X8_recipe (l : Launch) (y : Cy) (hy : Inj y) (p1 : Int32) (p2 : Int32) (M : Mem) : CT l y yX8_recipe cX8_recipe 3 (some .int) rX8_recipe [.ref (y.2.1 141), .int p1, .int p2] M (d_X8_recipe p1 p2 M) := by
  refine CT_of (by decide) hy (Nat.le_of_ble_eq_true rfl) (fun x hxl h => ?_)
  show G x y 0 [(0, .ref (y.2.1 141)), (1, .int p1), (2, .int p2)] [] M _
  unfold d_X8_recipe
  refine G_aload_n (pc := 0) h.1 dX8_recipe_0 rfl 0 rfl ?_
  refine G_get (pc := 1) (v := .ref (y.2.1 (sI 0 0))) h.1 fl_X8_12 lN141 (eM141 _) rfl dX8_recipe_1 ?_
  refine G_get (pc := 4) (v := .ref (y.2.1 (sI 0 1))) h.1 fl_X8_62 (ids_s h7_0 0 (by decide)) (eS0 h7_0 _) rfl dX8_recipe_4 ?_
  refine G_iload_n (pc := 7) h.1 dX8_recipe_7 rfl 1 rfl ?_
  refine G_callV (pc := 8) (As := [.int p1]) (rest := []) h.1 h.2.2.1 lk_X8_157 (ids_s h7_0 1 (by decide)) (eS1 h7_0 _) rfl rfl (c_X4_has x.1.2.1 y hy 0 h7_0 p1 M) rfl rfl (Nat.le_of_ble_eq_true rfl) ⟨rfl, rfl, Nat.le_of_ble_eq_true rfl, Nat.le_of_ble_eq_true rfl⟩ dX8_recipe_8 (fun r2 M1 => ?_)
  refine G_if_ne (pc := 11) (tgt := 16) h.1 dX8_recipe_11 (by decide) ?_ ?_
  · refine G_iload_n (pc := 16) h.1 dX8_recipe_16 rfl 2 rfl ?_
    refine G_ite (fun c3 => ?_) (fun c3 => ?_)
    · refine G_tabIn (z := 0) (off := 35) (tgt := 52) h.1 dX8_recipe_17 c3 (by decide) (by decide) (by decide) rfl (by decide) ?_
      refine G_aload_n (pc := 52) h.1 dX8_recipe_52 rfl 0 rfl ?_
      refine G_get (pc := 53) (v := .ref (y.2.1 (sI 0 0))) h.1 fl_X8_12 lN141 (eM141 _) rfl dX8_recipe_53 ?_
      refine G_get (pc := 56) (v := .ref (y.2.1 (sI 0 1))) h.1 fl_X8_62 (ids_s h7_0 0 (by decide)) (eS0 h7_0 _) rfl dX8_recipe_56 ?_
      refine G_get (pc := 59) (v := .ref (y.2.1 (sI 0 2))) h.1 fl_X8_215 (ids_s h7_0 1 (by decide)) (eS1 h7_0 _) rfl dX8_recipe_59 ?_
      refine G_iload_n (pc := 62) h.1 dX8_recipe_62 rfl 1 rfl ?_
      refine G_iald (pc := 63) h.1 (ids_s h7_0 2 (by decide)) (eS2 h7_0 _) dX8_recipe_63 ?_
      exact G_ret (pc := 64) h rfl dX8_recipe_64
    refine G_ite (fun c4 => ?_) (fun c4 => ?_)
    · refine G_tabIn (z := 1) (off := 48) (tgt := 65) h.1 dX8_recipe_17 c4 (by decide) (by decide) (by decide) rfl (by decide) ?_
      refine G_aload_n (pc := 65) h.1 dX8_recipe_65 rfl 0 rfl ?_
      refine G_get (pc := 66) (v := .ref (y.2.1 (sI 0 0))) h.1 fl_X8_12 lN141 (eM141 _) rfl dX8_recipe_66 ?_
      refine G_get (pc := 69) (v := .ref (y.2.1 (sI 0 1))) h.1 fl_X8_62 (ids_s h7_0 0 (by decide)) (eS0 h7_0 _) rfl dX8_recipe_69 ?_
      refine G_get (pc := 72) (v := .ref (y.2.1 (sI 0 3))) h.1 fl_X8_218 (ids_s h7_0 1 (by decide)) (eS1 h7_0 _) rfl dX8_recipe_72 ?_
      refine G_iload_n (pc := 75) h.1 dX8_recipe_75 rfl 1 rfl ?_
      refine G_iald (pc := 76) h.1 (ids_s h7_0 3 (by decide)) (eS3 h7_0 _) dX8_recipe_76 ?_
      exact G_ret (pc := 77) h rfl dX8_recipe_77
    refine G_ite (fun c5 => ?_) (fun c5 => ?_)
    · refine G_tabIn (z := 2) (off := 61) (tgt := 78) h.1 dX8_recipe_17 c5 (by decide) (by decide) (by decide) rfl (by decide) ?_
      refine G_aload_n (pc := 78) h.1 dX8_recipe_78 rfl 0 rfl ?_
      refine G_get (pc := 79) (v := .ref (y.2.1 (sI 0 0))) h.1 fl_X8_12 lN141 (eM141 _) rfl dX8_recipe_79 ?_
      refine G_get (pc := 82) (v := .ref (y.2.1 (sI 0 1))) h.1 fl_X8_62 (ids_s h7_0 0 (by decide)) (eS0 h7_0 _) rfl dX8_recipe_82 ?_
      refine G_get (pc := 85) (v := .ref (y.2.1 (sI 0 4))) h.1 fl_X8_221 (ids_s h7_0 1 (by decide)) (eS1 h7_0 _) rfl dX8_recipe_85 ?_
      refine G_iload_n (pc := 88) h.1 dX8_recipe_88 rfl 1 rfl ?_
      refine G_iald (pc := 89) h.1 (ids_s h7_0 4 (by decide)) (eS4 h7_0 _) dX8_recipe_89 ?_
      exact G_ret (pc := 90) h rfl dX8_recipe_90
    refine G_ite (fun c6 => ?_) (fun c6 => ?_)
    · refine G_tabIn (z := 3) (off := 74) (tgt := 91) h.1 dX8_recipe_17 c6 (by decide) (by decide) (by decide) rfl (by decide) ?_
      refine G_aload_n (pc := 91) h.1 dX8_recipe_91 rfl 0 rfl ?_
      refine G_get (pc := 92) (v := .ref (y.2.1 (sI 0 0))) h.1 fl_X8_12 lN141 (eM141 _) rfl dX8_recipe_92 ?_
      refine G_get (pc := 95) (v := .ref (y.2.1 (sI 0 1))) h.1 fl_X8_62 (ids_s h7_0 0 (by decide)) (eS0 h7_0 _) rfl dX8_recipe_95 ?_
      refine G_get (pc := 98) (v := .ref (y.2.1 (sI 0 5))) h.1 fl_X8_224 (ids_s h7_0 1 (by decide)) (eS1 h7_0 _) rfl dX8_recipe_98 ?_
      refine G_iload_n (pc := 101) h.1 dX8_recipe_101 rfl 1 rfl ?_
      refine G_iald (pc := 102) h.1 (ids_s h7_0 5 (by decide)) (eS5 h7_0 _) dX8_recipe_102 ?_
      exact G_ret (pc := 103) h rfl dX8_recipe_103
    refine G_ite (fun c9 => ?_) (fun c9 => ?_)
    · refine G_tabIn (z := 4) (off := 87) (tgt := 104) h.1 dX8_recipe_17 c9 (by decide) (by decide) (by decide) rfl (by decide) ?_
      refine G_aload_n (pc := 104) h.1 dX8_recipe_104 rfl 0 rfl ?_
      refine G_get (pc := 105) (v := .ref (y.2.1 (sI 0 0))) h.1 fl_X8_12 lN141 (eM141 _) rfl dX8_recipe_105 ?_
      refine G_get (pc := 108) (v := .ref (y.2.1 (sI 0 6))) h.1 fl_X8_106 (ids_s h7_0 0 (by decide)) (eS0 h7_0 _) rfl dX8_recipe_108 ?_
      refine G_iload_n (pc := 111) h.1 dX8_recipe_111 rfl 1 rfl ?_
      refine G_callV (pc := 112) (As := [.int p1]) (rest := []) h.1 h.2.2.1 lk_X8_227 (ids_s h7_0 6 (by decide)) (eS6 h7_0 _) rfl rfl (c_X0_doneOfRecipe x.1.2.1 y hy 0 h7_0 p1 M1) rfl rfl (Nat.le_of_ble_eq_true rfl) ⟨rfl, rfl, Nat.le_of_ble_eq_true rfl, Nat.le_of_ble_eq_true rfl⟩ dX8_recipe_112 (fun r8 M7 => ?_)
      exact G_ret (pc := 115) h rfl dX8_recipe_115
    refine G_tabOut (tgt := 116) h.1 dX8_recipe_17 (by have hz := And.intro trivial trivial; have z0 := g_ne c3 0 (by decide); have z1 := g_ne c4 1 (by decide); have z2 := g_ne c5 2 (by decide); have z3 := g_ne c6 3 (by decide); have z4 := g_ne c9 4 (by decide); omega) (by decide) ?_
    refine G_bipush (pc := 116) (v := (-2)) h.1 dX8_recipe_116 (by decide) ?_
    exact G_ret (pc := 118) h rfl dX8_recipe_118
  · refine G_iconst (pc := 14) (v := (-1)) h.1 dX8_recipe_14 (by decide) ?_
    exact G_ret (pc := 15) h rfl dX8_recipe_15
theorem dX8_robot_0 : decode cX8_robot 0 = .ok (.iload_n 1, 1) := by decide +kernel
theorem dX8_robot_1 : decode cX8_robot 1 = .ok (.invokestatic 154, 3) := by decide +kernel
theorem dX8_robot_4 : decode cX8_robot 4 = .ok (.ifCond .ne 5, 3) := by decide +kernel
theorem dX8_robot_7 : decode cX8_robot 7 = .ok (.iconst (-1), 1) := by decide +kernel
theorem dX8_robot_8 : decode cX8_robot 8 = .ok (.ireturn, 1) := by decide +kernel
theorem dX8_robot_9 : decode cX8_robot 9 = .ok (.iload_n 2, 1) := by decide +kernel
theorem dX8_robot_10 : decode cX8_robot 10 = .ok (.tableswitch 102 0 3 #[30, 56, 69, 93], 30) := by decide +kernel
theorem dX8_robot_40 : decode cX8_robot 40 = .ok (.aload_n 0, 1) := by decide +kernel
theorem dX8_robot_41 : decode cX8_robot 41 = .ok (.getfield 12, 3) := by decide +kernel
theorem dX8_robot_44 : decode cX8_robot 44 = .ok (.getfield 106, 3) := by decide +kernel
theorem dX8_robot_47 : decode cX8_robot 47 = .ok (.iload_n 1, 1) := by decide +kernel
theorem dX8_robot_48 : decode cX8_robot 48 = .ok (.iconst 0, 1) := by decide +kernel
theorem dX8_robot_49 : decode cX8_robot 49 = .ok (.invokevirtual 230, 3) := by decide +kernel
theorem dX8_robot_52 : decode cX8_robot 52 = .ok (.aload_n 0, 1) := by decide +kernel
theorem dX8_robot_53 : decode cX8_robot 53 = .ok (.getfield 12, 3) := by decide +kernel
theorem dX8_robot_56 : decode cX8_robot 56 = .ok (.getfield 106, 3) := by decide +kernel
theorem dX8_robot_59 : decode cX8_robot 59 = .ok (.iload_n 1, 1) := by decide +kernel
theorem dX8_robot_60 : decode cX8_robot 60 = .ok (.iconst 1, 1) := by decide +kernel
theorem dX8_robot_61 : decode cX8_robot 61 = .ok (.invokevirtual 230, 3) := by decide +kernel
theorem dX8_robot_64 : decode cX8_robot 64 = .ok (.iadd, 1) := by decide +kernel
theorem dX8_robot_65 : decode cX8_robot 65 = .ok (.ireturn, 1) := by decide +kernel
theorem dX8_robot_66 : decode cX8_robot 66 = .ok (.aload_n 0, 1) := by decide +kernel
theorem dX8_robot_67 : decode cX8_robot 67 = .ok (.getfield 12, 3) := by decide +kernel
theorem dX8_robot_70 : decode cX8_robot 70 = .ok (.getfield 106, 3) := by decide +kernel
theorem dX8_robot_73 : decode cX8_robot 73 = .ok (.iload_n 1, 1) := by decide +kernel
theorem dX8_robot_74 : decode cX8_robot 74 = .ok (.iconst 2, 1) := by decide +kernel
theorem dX8_robot_75 : decode cX8_robot 75 = .ok (.invokevirtual 230, 3) := by decide +kernel
theorem dX8_robot_78 : decode cX8_robot 78 = .ok (.ireturn, 1) := by decide +kernel
theorem dX8_robot_79 : decode cX8_robot 79 = .ok (.aload_n 0, 1) := by decide +kernel
theorem dX8_robot_80 : decode cX8_robot 80 = .ok (.getfield 12, 3) := by decide +kernel
theorem dX8_robot_83 : decode cX8_robot 83 = .ok (.iload_n 1, 1) := by decide +kernel
theorem dX8_robot_84 : decode cX8_robot 84 = .ok (.aload_n 0, 1) := by decide +kernel
theorem dX8_robot_85 : decode cX8_robot 85 = .ok (.getfield 12, 3) := by decide +kernel
theorem dX8_robot_88 : decode cX8_robot 88 = .ok (.getfield 180, 3) := by decide +kernel
theorem dX8_robot_91 : decode cX8_robot 91 = .ok (.invokevirtual 233, 3) := by decide +kernel
theorem dX8_robot_94 : decode cX8_robot 94 = .ok (.ifCond .eq 7, 3) := by decide +kernel
theorem dX8_robot_97 : decode cX8_robot 97 = .ok (.iconst 1, 1) := by decide +kernel
theorem dX8_robot_98 : decode cX8_robot 98 = .ok (.goto 4, 3) := by decide +kernel
theorem dX8_robot_101 : decode cX8_robot 101 = .ok (.iconst 0, 1) := by decide +kernel
theorem dX8_robot_102 : decode cX8_robot 102 = .ok (.ireturn, 1) := by decide +kernel
theorem dX8_robot_103 : decode cX8_robot 103 = .ok (.aload_n 0, 1) := by decide +kernel
theorem dX8_robot_104 : decode cX8_robot 104 = .ok (.getfield 12, 3) := by decide +kernel
theorem dX8_robot_107 : decode cX8_robot 107 = .ok (.iload_n 1, 1) := by decide +kernel
theorem dX8_robot_108 : decode cX8_robot 108 = .ok (.invokevirtual 237, 3) := by decide +kernel
theorem dX8_robot_111 : decode cX8_robot 111 = .ok (.ireturn, 1) := by decide +kernel
theorem dX8_robot_112 : decode cX8_robot 112 = .ok (.bipush (-2), 2) := by decide +kernel
theorem dX8_robot_114 : decode cX8_robot 114 = .ok (.ireturn, 1) := by decide +kernel
abbrev rX8_robot : Room := { frames := 5, cells := 0, slots := 0, locals := 112 }
set_option maxRecDepth 20000 in
theorem c_X8_robot (l : Launch) (y : Cy) (hy : Inj y) (p1 : Int32) (p2 : Int32) (M : Mem) : CT l y yX8_robot cX8_robot 3 (some .int) rX8_robot [.ref (y.2.1 141), .int p1, .int p2] M (d_X8_robot p1 p2 M) := by
  refine CT_of (by decide) hy (Nat.le_of_ble_eq_true rfl) (fun x hxl h => ?_)
  show G x y 0 [(0, .ref (y.2.1 141)), (1, .int p1), (2, .int p2)] [] M _
  unfold d_X8_robot
  refine G_iload_n (pc := 0) h.1 dX8_robot_0 rfl 1 rfl ?_
  refine G_callS (pc := 1) (As := [.int p1]) (rest := []) h.1 h.2.2.1 lk_X8_154 (c_X8_isRobot x.1.2.1 y hy p1 M) rfl rfl (Nat.le_of_ble_eq_true rfl) ⟨rfl, rfl, Nat.le_of_ble_eq_true rfl, Nat.le_of_ble_eq_true rfl⟩ dX8_robot_1 (fun r2 M1 => ?_)
  refine G_if_ne (pc := 4) (tgt := 9) h.1 dX8_robot_4 (by decide) ?_ ?_
  · refine G_iload_n (pc := 9) h.1 dX8_robot_9 rfl 2 rfl ?_
    refine G_ite (fun c7 => ?_) (fun c7 => ?_)
    · refine G_tabIn (z := 0) (off := 30) (tgt := 40) h.1 dX8_robot_10 c7 (by decide) (by decide) (by decide) rfl (by decide) ?_
      refine G_aload_n (pc := 40) h.1 dX8_robot_40 rfl 0 rfl ?_
      refine G_get (pc := 41) (v := .ref (y.2.1 (sI 0 0))) h.1 fl_X8_12 lN141 (eM141 _) rfl dX8_robot_41 ?_
      refine G_get (pc := 44) (v := .ref (y.2.1 (sI 0 6))) h.1 fl_X8_106 (ids_s h7_0 0 (by decide)) (eS0 h7_0 _) rfl dX8_robot_44 ?_
      refine G_iload_n (pc := 47) h.1 dX8_robot_47 rfl 1 rfl ?_
      refine G_iconst (pc := 48) (v := (0)) h.1 dX8_robot_48 (by decide) ?_
      refine G_callV (pc := 49) (As := [.int p1, .int (0 : Int32)]) (rest := []) h.1 h.2.2.1 lk_X8_230 (ids_s h7_0 6 (by decide)) (eS6 h7_0 _) rfl rfl (c_X0_ofRobot x.1.2.1 y hy 0 h7_0 p1 (0 : Int32) M1) rfl rfl (Nat.le_of_ble_eq_true rfl) ⟨rfl, rfl, Nat.le_of_ble_eq_true rfl, Nat.le_of_ble_eq_true rfl⟩ dX8_robot_49 (fun r4 M3 => ?_)
      refine G_aload_n (pc := 52) h.1 dX8_robot_52 rfl 0 rfl ?_
      refine G_get (pc := 53) (v := .ref (y.2.1 (sI 0 0))) h.1 fl_X8_12 lN141 (eM141 _) rfl dX8_robot_53 ?_
      refine G_get (pc := 56) (v := .ref (y.2.1 (sI 0 6))) h.1 fl_X8_106 (ids_s h7_0 0 (by decide)) (eS0 h7_0 _) rfl dX8_robot_56 ?_
      refine G_iload_n (pc := 59) h.1 dX8_robot_59 rfl 1 rfl ?_
      refine G_iconst (pc := 60) (v := (1)) h.1 dX8_robot_60 (by decide) ?_
      refine G_callV (pc := 61) (As := [.int p1, .int (1 : Int32)]) (rest := [.int r4]) h.1 h.2.2.1 lk_X8_230 (ids_s h7_0 6 (by decide)) (eS6 h7_0 _) rfl rfl (c_X0_ofRobot x.1.2.1 y hy 0 h7_0 p1 (1 : Int32) M3) rfl rfl (Nat.le_of_ble_eq_true rfl) ⟨rfl, rfl, Nat.le_of_ble_eq_true rfl, Nat.le_of_ble_eq_true rfl⟩ dX8_robot_61 (fun r6 M5 => ?_)
      refine G_iadd (pc := 64) h.1 dX8_robot_64 ?_
      exact G_ret (pc := 65) h rfl dX8_robot_65
    refine G_ite (fun c10 => ?_) (fun c10 => ?_)
    · refine G_tabIn (z := 1) (off := 56) (tgt := 66) h.1 dX8_robot_10 c10 (by decide) (by decide) (by decide) rfl (by decide) ?_
      refine G_aload_n (pc := 66) h.1 dX8_robot_66 rfl 0 rfl ?_
      refine G_get (pc := 67) (v := .ref (y.2.1 (sI 0 0))) h.1 fl_X8_12 lN141 (eM141 _) rfl dX8_robot_67 ?_
      refine G_get (pc := 70) (v := .ref (y.2.1 (sI 0 6))) h.1 fl_X8_106 (ids_s h7_0 0 (by decide)) (eS0 h7_0 _) rfl dX8_robot_70 ?_
      refine G_iload_n (pc := 73) h.1 dX8_robot_73 rfl 1 rfl ?_
      refine G_iconst (pc := 74) (v := (2)) h.1 dX8_robot_74 (by decide) ?_
      refine G_callV (pc := 75) (As := [.int p1, .int (2 : Int32)]) (rest := []) h.1 h.2.2.1 lk_X8_230 (ids_s h7_0 6 (by decide)) (eS6 h7_0 _) rfl rfl (c_X0_ofRobot x.1.2.1 y hy 0 h7_0 p1 (2 : Int32) M1) rfl rfl (Nat.le_of_ble_eq_true rfl) ⟨rfl, rfl, Nat.le_of_ble_eq_true rfl, Nat.le_of_ble_eq_true rfl⟩ dX8_robot_75 (fun r9 M8 => ?_)
      exact G_ret (pc := 78) h rfl dX8_robot_78
    refine G_ite (fun c13 => ?_) (fun c13 => ?_)
    · refine G_tabIn (z := 2) (off := 69) (tgt := 79) h.1 dX8_robot_10 c13 (by decide) (by decide) (by decide) rfl (by decide) ?_
      refine G_aload_n (pc := 79) h.1 dX8_robot_79 rfl 0 rfl ?_
      refine G_get (pc := 80) (v := .ref (y.2.1 (sI 0 0))) h.1 fl_X8_12 lN141 (eM141 _) rfl dX8_robot_80 ?_
      refine G_iload_n (pc := 83) h.1 dX8_robot_83 rfl 1 rfl ?_
      refine G_aload_n (pc := 84) h.1 dX8_robot_84 rfl 0 rfl ?_
      refine G_get (pc := 85) (v := .ref (y.2.1 (sI 0 0))) h.1 fl_X8_12 lN141 (eM141 _) rfl dX8_robot_85 ?_
      refine G_get (pc := 88) (v := .int (M1 (sI 0 0) 0)) h.1 fl_X8_180 (ids_s h7_0 0 (by decide)) (eS0 h7_0 _) rfl dX8_robot_88 ?_
      refine G_callV (pc := 91) (As := [.int p1, .int (M1 (sI 0 0) 0)]) (rest := []) h.1 h.2.2.1 lk_X8_233 (ids_s h7_0 0 (by decide)) (eS0 h7_0 _) rfl rfl (c_X5_isBusyIn x.1.2.1 y hy 0 h7_0 p1 (M1 (sI 0 0) 0) M1) rfl rfl (Nat.le_of_ble_eq_true rfl) ⟨rfl, rfl, Nat.le_of_ble_eq_true rfl, Nat.le_of_ble_eq_true rfl⟩ dX8_robot_91 (fun r12 M11 => ?_)
      refine G_if_eq (pc := 94) (tgt := 101) h.1 dX8_robot_94 (by decide) ?_ ?_
      · refine G_iconst (pc := 101) (v := (0)) h.1 dX8_robot_101 (by decide) ?_
        exact G_ret (pc := 102) h rfl dX8_robot_102
      · refine G_iconst (pc := 97) (v := (1)) h.1 dX8_robot_97 (by decide) ?_
        refine G_goto (pc := 98) (tgt := 102) h.1 dX8_robot_98 (by decide) ?_
        exact G_ret (pc := 102) h rfl dX8_robot_102
    refine G_ite (fun c16 => ?_) (fun c16 => ?_)
    · refine G_tabIn (z := 3) (off := 93) (tgt := 103) h.1 dX8_robot_10 c16 (by decide) (by decide) (by decide) rfl (by decide) ?_
      refine G_aload_n (pc := 103) h.1 dX8_robot_103 rfl 0 rfl ?_
      refine G_get (pc := 104) (v := .ref (y.2.1 (sI 0 0))) h.1 fl_X8_12 lN141 (eM141 _) rfl dX8_robot_104 ?_
      refine G_iload_n (pc := 107) h.1 dX8_robot_107 rfl 1 rfl ?_
      refine G_callV (pc := 108) (As := [.int p1]) (rest := []) h.1 h.2.2.1 lk_X8_237 (ids_s h7_0 0 (by decide)) (eS0 h7_0 _) rfl rfl (c_X5_firstFreeTick x.1.2.1 y hy 0 h7_0 p1 M1) rfl rfl (Nat.le_of_ble_eq_true rfl) ⟨rfl, rfl, Nat.le_of_ble_eq_true rfl, Nat.le_of_ble_eq_true rfl⟩ dX8_robot_108 (fun r15 M14 => ?_)
      exact G_ret (pc := 111) h rfl dX8_robot_111
    refine G_tabOut (tgt := 112) h.1 dX8_robot_10 (by have hz := And.intro trivial trivial; have z0 := g_ne c7 0 (by decide); have z1 := g_ne c10 1 (by decide); have z2 := g_ne c13 2 (by decide); have z3 := g_ne c16 3 (by decide); omega) (by decide) ?_
    refine G_bipush (pc := 112) (v := (-2)) h.1 dX8_robot_112 (by decide) ?_
    exact G_ret (pc := 114) h rfl dX8_robot_114
  · refine G_iconst (pc := 7) (v := (-1)) h.1 dX8_robot_7 (by decide) ?_
    exact G_ret (pc := 8) h rfl dX8_robot_8
theorem dX8_stateInTheEnd_0 : decode cX8_stateInTheEnd 0 = .ok (.aload_n 0, 1) := by decide +kernel
theorem dX8_stateInTheEnd_1 : decode cX8_stateInTheEnd 1 = .ok (.invokevirtual 277, 3) := by decide +kernel
theorem dX8_stateInTheEnd_4 : decode cX8_stateInTheEnd 4 = .ok (.aload_n 0, 1) := by decide +kernel
theorem dX8_stateInTheEnd_5 : decode cX8_stateInTheEnd 5 = .ok (.getfield 43, 3) := by decide +kernel
theorem dX8_stateInTheEnd_8 : decode cX8_stateInTheEnd 8 = .ok (.iload_n 1, 1) := by decide +kernel
theorem dX8_stateInTheEnd_9 : decode cX8_stateInTheEnd 9 = .ok (.invokevirtual 283, 3) := by decide +kernel
theorem dX8_stateInTheEnd_12 : decode cX8_stateInTheEnd 12 = .ok (.istore_n 2, 1) := by decide +kernel
theorem dX8_stateInTheEnd_13 : decode cX8_stateInTheEnd 13 = .ok (.iload_n 2, 1) := by decide +kernel
theorem dX8_stateInTheEnd_14 : decode cX8_stateInTheEnd 14 = .ok (.iconst (-1), 1) := by decide +kernel
theorem dX8_stateInTheEnd_15 : decode cX8_stateInTheEnd 15 = .ok (.if_icmp .ne 17, 3) := by decide +kernel
theorem dX8_stateInTheEnd_18 : decode cX8_stateInTheEnd 18 = .ok (.aload_n 0, 1) := by decide +kernel
theorem dX8_stateInTheEnd_19 : decode cX8_stateInTheEnd 19 = .ok (.getfield 12, 3) := by decide +kernel
theorem dX8_stateInTheEnd_22 : decode cX8_stateInTheEnd 22 = .ok (.getfield 106, 3) := by decide +kernel
theorem dX8_stateInTheEnd_25 : decode cX8_stateInTheEnd 25 = .ok (.iload_n 1, 1) := by decide +kernel
theorem dX8_stateInTheEnd_26 : decode cX8_stateInTheEnd 26 = .ok (.invokevirtual 286, 3) := by decide +kernel
theorem dX8_stateInTheEnd_29 : decode cX8_stateInTheEnd 29 = .ok (.goto 12, 3) := by decide +kernel
theorem dX8_stateInTheEnd_32 : decode cX8_stateInTheEnd 32 = .ok (.aload_n 0, 1) := by decide +kernel
theorem dX8_stateInTheEnd_33 : decode cX8_stateInTheEnd 33 = .ok (.getfield 43, 3) := by decide +kernel
theorem dX8_stateInTheEnd_36 : decode cX8_stateInTheEnd 36 = .ok (.getfield 289, 3) := by decide +kernel
theorem dX8_stateInTheEnd_39 : decode cX8_stateInTheEnd 39 = .ok (.iload_n 2, 1) := by decide +kernel
theorem dX8_stateInTheEnd_40 : decode cX8_stateInTheEnd 40 = .ok (.iaload, 1) := by decide +kernel
theorem dX8_stateInTheEnd_41 : decode cX8_stateInTheEnd 41 = .ok (.ireturn, 1) := by decide +kernel
abbrev rX8_stateInTheEnd : Room := { frames := 5, cells := 0, slots := 0, locals := 112 }
set_option maxRecDepth 20000 in
theorem c_X8_stateInTheEnd (l : Launch) (y : Cy) (hy : Inj y) (p1 : Int32) (M : Mem) : CT l y yX8_stateInTheEnd cX8_stateInTheEnd 3 (some .int) rX8_stateInTheEnd [.ref (y.2.1 141), .int p1] M (d_X8_stateInTheEnd p1 M) := by
  refine CT_of (by decide) hy (Nat.le_of_ble_eq_true rfl) (fun x hxl h => ?_)
  show G x y 0 [(0, .ref (y.2.1 141)), (1, .int p1)] [] M _
  unfold d_X8_stateInTheEnd
  refine G_aload_n (pc := 0) h.1 dX8_stateInTheEnd_0 rfl 0 rfl ?_
  refine G_callVv (pc := 1) (As := []) (rest := []) h.1 h.2.2.1 lk_X8_277 lN141 (eM141 _) rfl rfl (c_X8_forecastToEnd x.1.2.1 y hy M) rfl rfl (Nat.le_of_ble_eq_true rfl) ⟨rfl, rfl, Nat.le_of_ble_eq_true rfl, Nat.le_of_ble_eq_true rfl⟩ dX8_stateInTheEnd_1 (fun r2 M1 => ?_)
  refine G_aload_n (pc := 4) h.1 dX8_stateInTheEnd_4 rfl 0 rfl ?_
  refine G_get (pc := 5) (v := .ref (y.2.1 (cI 0 0))) h.1 fl_X8_43 lN141 (eM141 _) rfl dX8_stateInTheEnd_5 ?_
  refine G_iload_n (pc := 8) h.1 dX8_stateInTheEnd_8 rfl 1 rfl ?_
  refine G_callV (pc := 9) (As := [.int p1]) (rest := []) h.1 h.2.2.1 lk_X8_283 (ids_c h2_0 0 (by decide)) (eC0 h2_0 _) rfl rfl (c_X1_rowOf x.1.2.1 y hy 0 h2_0 p1 M1) rfl rfl (Nat.le_of_ble_eq_true rfl) ⟨rfl, rfl, Nat.le_of_ble_eq_true rfl, Nat.le_of_ble_eq_true rfl⟩ dX8_stateInTheEnd_9 (fun r4 M3 => ?_)
  refine G_istore_n (pc := 12) h.1 h.2.1 [(2, .int r4), (0, .ref (y.2.1 141)), (1, .int p1)] dX8_stateInTheEnd_12 rfl (by decide) rfl ?_
  refine G_iload_n (pc := 13) h.1 dX8_stateInTheEnd_13 rfl 0 rfl ?_
  refine G_iconst (pc := 14) (v := (-1)) h.1 dX8_stateInTheEnd_14 (by decide) ?_
  refine G_icmp_ne (pc := 15) (tgt := 32) h.1 dX8_stateInTheEnd_15 (by decide) ?_ ?_
  · refine G_aload_n (pc := 32) h.1 dX8_stateInTheEnd_32 rfl 1 rfl ?_
    refine G_get (pc := 33) (v := .ref (y.2.1 (cI 0 0))) h.1 fl_X8_43 lN141 (eM141 _) rfl dX8_stateInTheEnd_33 ?_
    refine G_get (pc := 36) (v := .ref (y.2.1 (cI 0 2))) h.1 fl_X8_289 (ids_c h2_0 0 (by decide)) (eC0 h2_0 _) rfl dX8_stateInTheEnd_36 ?_
    refine G_iload_n (pc := 39) h.1 dX8_stateInTheEnd_39 rfl 0 rfl ?_
    refine G_iald (pc := 40) h.1 (ids_c h2_0 2 (by decide)) (eC2 h2_0 _) dX8_stateInTheEnd_40 ?_
    exact G_ret (pc := 41) h rfl dX8_stateInTheEnd_41
  · refine G_aload_n (pc := 18) h.1 dX8_stateInTheEnd_18 rfl 1 rfl ?_
    refine G_get (pc := 19) (v := .ref (y.2.1 (sI 0 0))) h.1 fl_X8_12 lN141 (eM141 _) rfl dX8_stateInTheEnd_19 ?_
    refine G_get (pc := 22) (v := .ref (y.2.1 (sI 0 6))) h.1 fl_X8_106 (ids_s h7_0 0 (by decide)) (eS0 h7_0 _) rfl dX8_stateInTheEnd_22 ?_
    refine G_iload_n (pc := 25) h.1 dX8_stateInTheEnd_25 rfl 2 rfl ?_
    refine G_callV (pc := 26) (As := [.int p1]) (rest := []) h.1 h.2.2.1 lk_X8_286 (ids_s h7_0 6 (by decide)) (eS6 h7_0 _) rfl rfl (c_X0_stateOf x.1.2.1 y hy 0 h7_0 p1 M3) rfl rfl (Nat.le_of_ble_eq_true rfl) ⟨rfl, rfl, Nat.le_of_ble_eq_true rfl, Nat.le_of_ble_eq_true rfl⟩ dX8_stateInTheEnd_26 (fun r6 M5 => ?_)
    refine G_goto (pc := 29) (tgt := 41) h.1 dX8_stateInTheEnd_29 (by decide) ?_
    exact G_ret (pc := 41) h rfl dX8_stateInTheEnd_41
theorem dX8_tickOfSpoiling_0 : decode cX8_tickOfSpoiling 0 = .ok (.aload_n 0, 1) := by decide +kernel
theorem dX8_tickOfSpoiling_1 : decode cX8_tickOfSpoiling 1 = .ok (.invokevirtual 277, 3) := by decide +kernel
theorem dX8_tickOfSpoiling_4 : decode cX8_tickOfSpoiling 4 = .ok (.aload_n 0, 1) := by decide +kernel
theorem dX8_tickOfSpoiling_5 : decode cX8_tickOfSpoiling 5 = .ok (.getfield 43, 3) := by decide +kernel
theorem dX8_tickOfSpoiling_8 : decode cX8_tickOfSpoiling 8 = .ok (.iload_n 1, 1) := by decide +kernel
theorem dX8_tickOfSpoiling_9 : decode cX8_tickOfSpoiling 9 = .ok (.invokevirtual 283, 3) := by decide +kernel
theorem dX8_tickOfSpoiling_12 : decode cX8_tickOfSpoiling 12 = .ok (.istore_n 2, 1) := by decide +kernel
theorem dX8_tickOfSpoiling_13 : decode cX8_tickOfSpoiling 13 = .ok (.iload_n 2, 1) := by decide +kernel
theorem dX8_tickOfSpoiling_14 : decode cX8_tickOfSpoiling 14 = .ok (.iconst (-1), 1) := by decide +kernel
theorem dX8_tickOfSpoiling_15 : decode cX8_tickOfSpoiling 15 = .ok (.if_icmp .ne 8, 3) := by decide +kernel
theorem dX8_tickOfSpoiling_18 : decode cX8_tickOfSpoiling 18 = .ok (.bipush (-5), 2) := by decide +kernel
theorem dX8_tickOfSpoiling_20 : decode cX8_tickOfSpoiling 20 = .ok (.goto 12, 3) := by decide +kernel
theorem dX8_tickOfSpoiling_23 : decode cX8_tickOfSpoiling 23 = .ok (.aload_n 0, 1) := by decide +kernel
theorem dX8_tickOfSpoiling_24 : decode cX8_tickOfSpoiling 24 = .ok (.getfield 43, 3) := by decide +kernel
theorem dX8_tickOfSpoiling_27 : decode cX8_tickOfSpoiling 27 = .ok (.getfield 290, 3) := by decide +kernel
theorem dX8_tickOfSpoiling_30 : decode cX8_tickOfSpoiling 30 = .ok (.iload_n 2, 1) := by decide +kernel
theorem dX8_tickOfSpoiling_31 : decode cX8_tickOfSpoiling 31 = .ok (.iaload, 1) := by decide +kernel
theorem dX8_tickOfSpoiling_32 : decode cX8_tickOfSpoiling 32 = .ok (.ireturn, 1) := by decide +kernel
abbrev rX8_tickOfSpoiling : Room := { frames := 5, cells := 0, slots := 0, locals := 112 }
set_option maxRecDepth 20000 in
theorem c_X8_tickOfSpoiling (l : Launch) (y : Cy) (hy : Inj y) (p1 : Int32) (M : Mem) : CT l y yX8_tickOfSpoiling cX8_tickOfSpoiling 3 (some .int) rX8_tickOfSpoiling [.ref (y.2.1 141), .int p1] M (d_X8_tickOfSpoiling p1 M) := by
  refine CT_of (by decide) hy (Nat.le_of_ble_eq_true rfl) (fun x hxl h => ?_)
  show G x y 0 [(0, .ref (y.2.1 141)), (1, .int p1)] [] M _
  unfold d_X8_tickOfSpoiling
  refine G_aload_n (pc := 0) h.1 dX8_tickOfSpoiling_0 rfl 0 rfl ?_
  refine G_callVv (pc := 1) (As := []) (rest := []) h.1 h.2.2.1 lk_X8_277 lN141 (eM141 _) rfl rfl (c_X8_forecastToEnd x.1.2.1 y hy M) rfl rfl (Nat.le_of_ble_eq_true rfl) ⟨rfl, rfl, Nat.le_of_ble_eq_true rfl, Nat.le_of_ble_eq_true rfl⟩ dX8_tickOfSpoiling_1 (fun r2 M1 => ?_)
  refine G_aload_n (pc := 4) h.1 dX8_tickOfSpoiling_4 rfl 0 rfl ?_
  refine G_get (pc := 5) (v := .ref (y.2.1 (cI 0 0))) h.1 fl_X8_43 lN141 (eM141 _) rfl dX8_tickOfSpoiling_5 ?_
  refine G_iload_n (pc := 8) h.1 dX8_tickOfSpoiling_8 rfl 1 rfl ?_
  refine G_callV (pc := 9) (As := [.int p1]) (rest := []) h.1 h.2.2.1 lk_X8_283 (ids_c h2_0 0 (by decide)) (eC0 h2_0 _) rfl rfl (c_X1_rowOf x.1.2.1 y hy 0 h2_0 p1 M1) rfl rfl (Nat.le_of_ble_eq_true rfl) ⟨rfl, rfl, Nat.le_of_ble_eq_true rfl, Nat.le_of_ble_eq_true rfl⟩ dX8_tickOfSpoiling_9 (fun r4 M3 => ?_)
  refine G_istore_n (pc := 12) h.1 h.2.1 [(2, .int r4), (0, .ref (y.2.1 141)), (1, .int p1)] dX8_tickOfSpoiling_12 rfl (by decide) rfl ?_
  refine G_iload_n (pc := 13) h.1 dX8_tickOfSpoiling_13 rfl 0 rfl ?_
  refine G_iconst (pc := 14) (v := (-1)) h.1 dX8_tickOfSpoiling_14 (by decide) ?_
  refine G_icmp_ne (pc := 15) (tgt := 23) h.1 dX8_tickOfSpoiling_15 (by decide) ?_ ?_
  · refine G_aload_n (pc := 23) h.1 dX8_tickOfSpoiling_23 rfl 1 rfl ?_
    refine G_get (pc := 24) (v := .ref (y.2.1 (cI 0 0))) h.1 fl_X8_43 lN141 (eM141 _) rfl dX8_tickOfSpoiling_24 ?_
    refine G_get (pc := 27) (v := .ref (y.2.1 (cI 0 4))) h.1 fl_X8_290 (ids_c h2_0 0 (by decide)) (eC0 h2_0 _) rfl dX8_tickOfSpoiling_27 ?_
    refine G_iload_n (pc := 30) h.1 dX8_tickOfSpoiling_30 rfl 0 rfl ?_
    refine G_iald (pc := 31) h.1 (ids_c h2_0 4 (by decide)) (eC4 h2_0 _) dX8_tickOfSpoiling_31 ?_
    exact G_ret (pc := 32) h rfl dX8_tickOfSpoiling_32
  · refine G_bipush (pc := 18) (v := (-5)) h.1 dX8_tickOfSpoiling_18 (by decide) ?_
    refine G_goto (pc := 20) (tgt := 32) h.1 dX8_tickOfSpoiling_20 (by decide) ?_
    exact G_ret (pc := 32) h rfl dX8_tickOfSpoiling_32
theorem dX8_leastSpare_0 : decode cX8_leastSpare 0 = .ok (.aload_n 0, 1) := by decide +kernel
theorem dX8_leastSpare_1 : decode cX8_leastSpare 1 = .ok (.invokevirtual 277, 3) := by decide +kernel
theorem dX8_leastSpare_4 : decode cX8_leastSpare 4 = .ok (.aload_n 0, 1) := by decide +kernel
theorem dX8_leastSpare_5 : decode cX8_leastSpare 5 = .ok (.getfield 43, 3) := by decide +kernel
theorem dX8_leastSpare_8 : decode cX8_leastSpare 8 = .ok (.iload_n 1, 1) := by decide +kernel
theorem dX8_leastSpare_9 : decode cX8_leastSpare 9 = .ok (.invokevirtual 283, 3) := by decide +kernel
theorem dX8_leastSpare_12 : decode cX8_leastSpare 12 = .ok (.istore_n 2, 1) := by decide +kernel
theorem dX8_leastSpare_13 : decode cX8_leastSpare 13 = .ok (.iload_n 2, 1) := by decide +kernel
theorem dX8_leastSpare_14 : decode cX8_leastSpare 14 = .ok (.iconst (-1), 1) := by decide +kernel
theorem dX8_leastSpare_15 : decode cX8_leastSpare 15 = .ok (.if_icmp .ne 8, 3) := by decide +kernel
theorem dX8_leastSpare_18 : decode cX8_leastSpare 18 = .ok (.bipush (-5), 2) := by decide +kernel
theorem dX8_leastSpare_20 : decode cX8_leastSpare 20 = .ok (.goto 16, 3) := by decide +kernel
theorem dX8_leastSpare_23 : decode cX8_leastSpare 23 = .ok (.sipush 10000, 3) := by decide +kernel
theorem dX8_leastSpare_26 : decode cX8_leastSpare 26 = .ok (.aload_n 0, 1) := by decide +kernel
theorem dX8_leastSpare_27 : decode cX8_leastSpare 27 = .ok (.getfield 43, 3) := by decide +kernel
theorem dX8_leastSpare_30 : decode cX8_leastSpare 30 = .ok (.getfield 292, 3) := by decide +kernel
theorem dX8_leastSpare_33 : decode cX8_leastSpare 33 = .ok (.iload_n 2, 1) := by decide +kernel
theorem dX8_leastSpare_34 : decode cX8_leastSpare 34 = .ok (.iaload, 1) := by decide +kernel
theorem dX8_leastSpare_35 : decode cX8_leastSpare 35 = .ok (.iadd, 1) := by decide +kernel
theorem dX8_leastSpare_36 : decode cX8_leastSpare 36 = .ok (.ireturn, 1) := by decide +kernel
abbrev rX8_leastSpare : Room := { frames := 5, cells := 0, slots := 0, locals := 112 }
set_option maxRecDepth 20000 in
theorem c_X8_leastSpare (l : Launch) (y : Cy) (hy : Inj y) (p1 : Int32) (M : Mem) : CT l y yX8_leastSpare cX8_leastSpare 3 (some .int) rX8_leastSpare [.ref (y.2.1 141), .int p1] M (d_X8_leastSpare p1 M) := by
  refine CT_of (by decide) hy (Nat.le_of_ble_eq_true rfl) (fun x hxl h => ?_)
  show G x y 0 [(0, .ref (y.2.1 141)), (1, .int p1)] [] M _
  unfold d_X8_leastSpare
  refine G_aload_n (pc := 0) h.1 dX8_leastSpare_0 rfl 0 rfl ?_
  refine G_callVv (pc := 1) (As := []) (rest := []) h.1 h.2.2.1 lk_X8_277 lN141 (eM141 _) rfl rfl (c_X8_forecastToEnd x.1.2.1 y hy M) rfl rfl (Nat.le_of_ble_eq_true rfl) ⟨rfl, rfl, Nat.le_of_ble_eq_true rfl, Nat.le_of_ble_eq_true rfl⟩ dX8_leastSpare_1 (fun r2 M1 => ?_)
  refine G_aload_n (pc := 4) h.1 dX8_leastSpare_4 rfl 0 rfl ?_
  refine G_get (pc := 5) (v := .ref (y.2.1 (cI 0 0))) h.1 fl_X8_43 lN141 (eM141 _) rfl dX8_leastSpare_5 ?_
  refine G_iload_n (pc := 8) h.1 dX8_leastSpare_8 rfl 1 rfl ?_
  refine G_callV (pc := 9) (As := [.int p1]) (rest := []) h.1 h.2.2.1 lk_X8_283 (ids_c h2_0 0 (by decide)) (eC0 h2_0 _) rfl rfl (c_X1_rowOf x.1.2.1 y hy 0 h2_0 p1 M1) rfl rfl (Nat.le_of_ble_eq_true rfl) ⟨rfl, rfl, Nat.le_of_ble_eq_true rfl, Nat.le_of_ble_eq_true rfl⟩ dX8_leastSpare_9 (fun r4 M3 => ?_)
  refine G_istore_n (pc := 12) h.1 h.2.1 [(2, .int r4), (0, .ref (y.2.1 141)), (1, .int p1)] dX8_leastSpare_12 rfl (by decide) rfl ?_
  refine G_iload_n (pc := 13) h.1 dX8_leastSpare_13 rfl 0 rfl ?_
  refine G_iconst (pc := 14) (v := (-1)) h.1 dX8_leastSpare_14 (by decide) ?_
  refine G_icmp_ne (pc := 15) (tgt := 23) h.1 dX8_leastSpare_15 (by decide) ?_ ?_
  · refine G_sipush (pc := 23) (v := (10000)) h.1 dX8_leastSpare_23 (by decide) ?_
    refine G_aload_n (pc := 26) h.1 dX8_leastSpare_26 rfl 1 rfl ?_
    refine G_get (pc := 27) (v := .ref (y.2.1 (cI 0 0))) h.1 fl_X8_43 lN141 (eM141 _) rfl dX8_leastSpare_27 ?_
    refine G_get (pc := 30) (v := .ref (y.2.1 (cI 0 5))) h.1 fl_X8_292 (ids_c h2_0 0 (by decide)) (eC0 h2_0 _) rfl dX8_leastSpare_30 ?_
    refine G_iload_n (pc := 33) h.1 dX8_leastSpare_33 rfl 0 rfl ?_
    refine G_iald (pc := 34) h.1 (ids_c h2_0 5 (by decide)) (eC5 h2_0 _) dX8_leastSpare_34 ?_
    refine G_iadd (pc := 35) h.1 dX8_leastSpare_35 ?_
    exact G_ret (pc := 36) h rfl dX8_leastSpare_36
  · refine G_bipush (pc := 18) (v := (-5)) h.1 dX8_leastSpare_18 (by decide) ?_
    refine G_goto (pc := 20) (tgt := 36) h.1 dX8_leastSpare_20 (by decide) ?_
    exact G_ret (pc := 36) h rfl dX8_leastSpare_36
theorem dX8_booking_0 : decode cX8_booking 0 = .ok (.aload_n 0, 1) := by decide +kernel
theorem dX8_booking_1 : decode cX8_booking 1 = .ok (.getfield 12, 3) := by decide +kernel
theorem dX8_booking_4 : decode cX8_booking 4 = .ok (.getfield 106, 3) := by decide +kernel
theorem dX8_booking_7 : decode cX8_booking 7 = .ok (.astore_n 3, 1) := by decide +kernel
theorem dX8_booking_8 : decode cX8_booking 8 = .ok (.aload_n 3, 1) := by decide +kernel
theorem dX8_booking_9 : decode cX8_booking 9 = .ok (.iload_n 1, 1) := by decide +kernel
theorem dX8_booking_10 : decode cX8_booking 10 = .ok (.invokevirtual 114, 3) := by decide +kernel
theorem dX8_booking_13 : decode cX8_booking 13 = .ok (.ifCond .ne 5, 3) := by decide +kernel
theorem dX8_booking_16 : decode cX8_booking 16 = .ok (.iconst (-1), 1) := by decide +kernel
theorem dX8_booking_17 : decode cX8_booking 17 = .ok (.ireturn, 1) := by decide +kernel
theorem dX8_booking_18 : decode cX8_booking 18 = .ok (.iload_n 2, 1) := by decide +kernel
theorem dX8_booking_19 : decode cX8_booking 19 = .ok (.tableswitch 98 0 7 #[45, 52, 59, 66, 73, 80, 86, 92], 45) := by decide +kernel
theorem dX8_booking_64 : decode cX8_booking 64 = .ok (.aload_n 3, 1) := by decide +kernel
theorem dX8_booking_65 : decode cX8_booking 65 = .ok (.getfield 131, 3) := by decide +kernel
theorem dX8_booking_68 : decode cX8_booking 68 = .ok (.iload_n 1, 1) := by decide +kernel
theorem dX8_booking_69 : decode cX8_booking 69 = .ok (.iaload, 1) := by decide +kernel
theorem dX8_booking_70 : decode cX8_booking 70 = .ok (.ireturn, 1) := by decide +kernel
theorem dX8_booking_71 : decode cX8_booking 71 = .ok (.aload_n 3, 1) := by decide +kernel
theorem dX8_booking_72 : decode cX8_booking 72 = .ok (.getfield 134, 3) := by decide +kernel
theorem dX8_booking_75 : decode cX8_booking 75 = .ok (.iload_n 1, 1) := by decide +kernel
theorem dX8_booking_76 : decode cX8_booking 76 = .ok (.iaload, 1) := by decide +kernel
theorem dX8_booking_77 : decode cX8_booking 77 = .ok (.ireturn, 1) := by decide +kernel
theorem dX8_booking_78 : decode cX8_booking 78 = .ok (.aload_n 3, 1) := by decide +kernel
theorem dX8_booking_79 : decode cX8_booking 79 = .ok (.getfield 145, 3) := by decide +kernel
theorem dX8_booking_82 : decode cX8_booking 82 = .ok (.iload_n 1, 1) := by decide +kernel
theorem dX8_booking_83 : decode cX8_booking 83 = .ok (.iaload, 1) := by decide +kernel
theorem dX8_booking_84 : decode cX8_booking 84 = .ok (.ireturn, 1) := by decide +kernel
theorem dX8_booking_85 : decode cX8_booking 85 = .ok (.aload_n 3, 1) := by decide +kernel
theorem dX8_booking_86 : decode cX8_booking 86 = .ok (.getfield 121, 3) := by decide +kernel
theorem dX8_booking_89 : decode cX8_booking 89 = .ok (.iload_n 1, 1) := by decide +kernel
theorem dX8_booking_90 : decode cX8_booking 90 = .ok (.iaload, 1) := by decide +kernel
theorem dX8_booking_91 : decode cX8_booking 91 = .ok (.ireturn, 1) := by decide +kernel
theorem dX8_booking_92 : decode cX8_booking 92 = .ok (.aload_n 3, 1) := by decide +kernel
theorem dX8_booking_93 : decode cX8_booking 93 = .ok (.getfield 240, 3) := by decide +kernel
theorem dX8_booking_96 : decode cX8_booking 96 = .ok (.iload_n 1, 1) := by decide +kernel
theorem dX8_booking_97 : decode cX8_booking 97 = .ok (.iaload, 1) := by decide +kernel
theorem dX8_booking_98 : decode cX8_booking 98 = .ok (.ireturn, 1) := by decide +kernel
theorem dX8_booking_99 : decode cX8_booking 99 = .ok (.aload_n 0, 1) := by decide +kernel
theorem dX8_booking_100 : decode cX8_booking 100 = .ok (.iload_n 1, 1) := by decide +kernel
theorem dX8_booking_101 : decode cX8_booking 101 = .ok (.invokevirtual 243, 3) := by decide +kernel
theorem dX8_booking_104 : decode cX8_booking 104 = .ok (.ireturn, 1) := by decide +kernel
theorem dX8_booking_105 : decode cX8_booking 105 = .ok (.aload_n 0, 1) := by decide +kernel
theorem dX8_booking_106 : decode cX8_booking 106 = .ok (.iload_n 1, 1) := by decide +kernel
theorem dX8_booking_107 : decode cX8_booking 107 = .ok (.invokevirtual 246, 3) := by decide +kernel
theorem dX8_booking_110 : decode cX8_booking 110 = .ok (.ireturn, 1) := by decide +kernel
theorem dX8_booking_111 : decode cX8_booking 111 = .ok (.aload_n 0, 1) := by decide +kernel
theorem dX8_booking_112 : decode cX8_booking 112 = .ok (.iload_n 1, 1) := by decide +kernel
theorem dX8_booking_113 : decode cX8_booking 113 = .ok (.invokevirtual 249, 3) := by decide +kernel
theorem dX8_booking_116 : decode cX8_booking 116 = .ok (.ireturn, 1) := by decide +kernel
theorem dX8_booking_117 : decode cX8_booking 117 = .ok (.bipush (-2), 2) := by decide +kernel
theorem dX8_booking_119 : decode cX8_booking 119 = .ok (.ireturn, 1) := by decide +kernel
abbrev rX8_booking : Room := { frames := 6, cells := 0, slots := 0, locals := 134 }
set_option maxRecDepth 20000 in
theorem c_X8_booking (l : Launch) (y : Cy) (hy : Inj y) (p1 : Int32) (p2 : Int32) (M : Mem) : CT l y yX8_booking cX8_booking 4 (some .int) rX8_booking [.ref (y.2.1 141), .int p1, .int p2] M (d_X8_booking p1 p2 M) := by
  refine CT_of (by decide) hy (Nat.le_of_ble_eq_true rfl) (fun x hxl h => ?_)
  show G x y 0 [(0, .ref (y.2.1 141)), (1, .int p1), (2, .int p2)] [] M _
  unfold d_X8_booking
  refine G_aload_n (pc := 0) h.1 dX8_booking_0 rfl 0 rfl ?_
  refine G_get (pc := 1) (v := .ref (y.2.1 (sI 0 0))) h.1 fl_X8_12 lN141 (eM141 _) rfl dX8_booking_1 ?_
  refine G_get (pc := 4) (v := .ref (y.2.1 (sI 0 6))) h.1 fl_X8_106 (ids_s h7_0 0 (by decide)) (eS0 h7_0 _) rfl dX8_booking_4 ?_
  refine G_astore_n (pc := 7) h.1 h.2.1 [(3, .ref (y.2.1 (sI 0 6))), (0, .ref (y.2.1 141)), (1, .int p1), (2, .int p2)] dX8_booking_7 rfl (by decide) rfl ?_
  refine G_aload_n (pc := 8) h.1 dX8_booking_8 rfl 0 rfl ?_
  refine G_iload_n (pc := 9) h.1 dX8_booking_9 rfl 2 rfl ?_
  refine G_callV (pc := 10) (As := [.int p1]) (rest := []) h.1 h.2.2.1 lk_X8_114 (ids_s h7_0 6 (by decide)) (eS6 h7_0 _) rfl rfl (c_X0_has x.1.2.1 y hy 0 h7_0 p1 M) rfl rfl (Nat.le_of_ble_eq_true rfl) ⟨rfl, rfl, Nat.le_of_ble_eq_true rfl, Nat.le_of_ble_eq_true rfl⟩ dX8_booking_10 (fun r2 M1 => ?_)
  refine G_if_ne (pc := 13) (tgt := 18) h.1 dX8_booking_13 (by decide) ?_ ?_
  · refine G_iload_n (pc := 18) h.1 dX8_booking_18 rfl 3 rfl ?_
    refine G_ite (fun c3 => ?_) (fun c3 => ?_)
    · refine G_tabIn (z := 0) (off := 45) (tgt := 64) h.1 dX8_booking_19 c3 (by decide) (by decide) (by decide) rfl (by decide) ?_
      refine G_aload_n (pc := 64) h.1 dX8_booking_64 rfl 0 rfl ?_
      refine G_get (pc := 65) (v := .ref (y.2.1 (sI 0 7))) h.1 fl_X8_131 (ids_s h7_0 6 (by decide)) (eS6 h7_0 _) rfl dX8_booking_65 ?_
      refine G_iload_n (pc := 68) h.1 dX8_booking_68 rfl 2 rfl ?_
      refine G_iald (pc := 69) h.1 (ids_s h7_0 7 (by decide)) (eS7 h7_0 _) dX8_booking_69 ?_
      exact G_ret (pc := 70) h rfl dX8_booking_70
    refine G_ite (fun c4 => ?_) (fun c4 => ?_)
    · refine G_tabIn (z := 1) (off := 52) (tgt := 71) h.1 dX8_booking_19 c4 (by decide) (by decide) (by decide) rfl (by decide) ?_
      refine G_aload_n (pc := 71) h.1 dX8_booking_71 rfl 0 rfl ?_
      refine G_get (pc := 72) (v := .ref (y.2.1 (sI 0 8))) h.1 fl_X8_134 (ids_s h7_0 6 (by decide)) (eS6 h7_0 _) rfl dX8_booking_72 ?_
      refine G_iload_n (pc := 75) h.1 dX8_booking_75 rfl 2 rfl ?_
      refine G_iald (pc := 76) h.1 (ids_s h7_0 8 (by decide)) (eS8 h7_0 _) dX8_booking_76 ?_
      exact G_ret (pc := 77) h rfl dX8_booking_77
    refine G_ite (fun c5 => ?_) (fun c5 => ?_)
    · refine G_tabIn (z := 2) (off := 59) (tgt := 78) h.1 dX8_booking_19 c5 (by decide) (by decide) (by decide) rfl (by decide) ?_
      refine G_aload_n (pc := 78) h.1 dX8_booking_78 rfl 0 rfl ?_
      refine G_get (pc := 79) (v := .ref (y.2.1 (sI 0 9))) h.1 fl_X8_145 (ids_s h7_0 6 (by decide)) (eS6 h7_0 _) rfl dX8_booking_79 ?_
      refine G_iload_n (pc := 82) h.1 dX8_booking_82 rfl 2 rfl ?_
      refine G_iald (pc := 83) h.1 (ids_s h7_0 9 (by decide)) (eS9 h7_0 _) dX8_booking_83 ?_
      exact G_ret (pc := 84) h rfl dX8_booking_84
    refine G_ite (fun c6 => ?_) (fun c6 => ?_)
    · refine G_tabIn (z := 3) (off := 66) (tgt := 85) h.1 dX8_booking_19 c6 (by decide) (by decide) (by decide) rfl (by decide) ?_
      refine G_aload_n (pc := 85) h.1 dX8_booking_85 rfl 0 rfl ?_
      refine G_get (pc := 86) (v := .ref (y.2.1 (sI 0 10))) h.1 fl_X8_121 (ids_s h7_0 6 (by decide)) (eS6 h7_0 _) rfl dX8_booking_86 ?_
      refine G_iload_n (pc := 89) h.1 dX8_booking_89 rfl 2 rfl ?_
      refine G_iald (pc := 90) h.1 (ids_s h7_0 10 (by decide)) (eS10 h7_0 _) dX8_booking_90 ?_
      exact G_ret (pc := 91) h rfl dX8_booking_91
    refine G_ite (fun c7 => ?_) (fun c7 => ?_)
    · refine G_tabIn (z := 4) (off := 73) (tgt := 92) h.1 dX8_booking_19 c7 (by decide) (by decide) (by decide) rfl (by decide) ?_
      refine G_aload_n (pc := 92) h.1 dX8_booking_92 rfl 0 rfl ?_
      refine G_get (pc := 93) (v := .ref (y.2.1 (sI 0 11))) h.1 fl_X8_240 (ids_s h7_0 6 (by decide)) (eS6 h7_0 _) rfl dX8_booking_93 ?_
      refine G_iload_n (pc := 96) h.1 dX8_booking_96 rfl 2 rfl ?_
      refine G_iald (pc := 97) h.1 (ids_s h7_0 11 (by decide)) (eS11 h7_0 _) dX8_booking_97 ?_
      exact G_ret (pc := 98) h rfl dX8_booking_98
    refine G_ite (fun c10 => ?_) (fun c10 => ?_)
    · refine G_tabIn (z := 5) (off := 80) (tgt := 99) h.1 dX8_booking_19 c10 (by decide) (by decide) (by decide) rfl (by decide) ?_
      refine G_aload_n (pc := 99) h.1 dX8_booking_99 rfl 1 rfl ?_
      refine G_iload_n (pc := 100) h.1 dX8_booking_100 rfl 2 rfl ?_
      refine G_callV (pc := 101) (As := [.int p1]) (rest := []) h.1 h.2.2.1 lk_X8_243 lN141 (eM141 _) rfl rfl (c_X8_stateInTheEnd x.1.2.1 y hy p1 M1) rfl rfl (Nat.le_of_ble_eq_true rfl) ⟨rfl, rfl, Nat.le_of_ble_eq_true rfl, Nat.le_of_ble_eq_true rfl⟩ dX8_booking_101 (fun r9 M8 => ?_)
      exact G_ret (pc := 104) h rfl dX8_booking_104
    refine G_ite (fun c13 => ?_) (fun c13 => ?_)
    · refine G_tabIn (z := 6) (off := 86) (tgt := 105) h.1 dX8_booking_19 c13 (by decide) (by decide) (by decide) rfl (by decide) ?_
      refine G_aload_n (pc := 105) h.1 dX8_booking_105 rfl 1 rfl ?_
      refine G_iload_n (pc := 106) h.1 dX8_booking_106 rfl 2 rfl ?_
      refine G_callV (pc := 107) (As := [.int p1]) (rest := []) h.1 h.2.2.1 lk_X8_246 lN141 (eM141 _) rfl rfl (c_X8_tickOfSpoiling x.1.2.1 y hy p1 M1) rfl rfl (Nat.le_of_ble_eq_true rfl) ⟨rfl, rfl, Nat.le_of_ble_eq_true rfl, Nat.le_of_ble_eq_true rfl⟩ dX8_booking_107 (fun r12 M11 => ?_)
      exact G_ret (pc := 110) h rfl dX8_booking_110
    refine G_ite (fun c16 => ?_) (fun c16 => ?_)
    · refine G_tabIn (z := 7) (off := 92) (tgt := 111) h.1 dX8_booking_19 c16 (by decide) (by decide) (by decide) rfl (by decide) ?_
      refine G_aload_n (pc := 111) h.1 dX8_booking_111 rfl 1 rfl ?_
      refine G_iload_n (pc := 112) h.1 dX8_booking_112 rfl 2 rfl ?_
      refine G_callV (pc := 113) (As := [.int p1]) (rest := []) h.1 h.2.2.1 lk_X8_249 lN141 (eM141 _) rfl rfl (c_X8_leastSpare x.1.2.1 y hy p1 M1) rfl rfl (Nat.le_of_ble_eq_true rfl) ⟨rfl, rfl, Nat.le_of_ble_eq_true rfl, Nat.le_of_ble_eq_true rfl⟩ dX8_booking_113 (fun r15 M14 => ?_)
      exact G_ret (pc := 116) h rfl dX8_booking_116
    refine G_tabOut (tgt := 117) h.1 dX8_booking_19 (by have hz := And.intro trivial trivial; have z0 := g_ne c3 0 (by decide); have z1 := g_ne c4 1 (by decide); have z2 := g_ne c5 2 (by decide); have z3 := g_ne c6 3 (by decide); have z4 := g_ne c7 4 (by decide); have z5 := g_ne c10 5 (by decide); have z6 := g_ne c13 6 (by decide); have z7 := g_ne c16 7 (by decide); omega) (by decide) ?_
    refine G_bipush (pc := 117) (v := (-2)) h.1 dX8_booking_117 (by decide) ?_
    exact G_ret (pc := 119) h rfl dX8_booking_119
  · refine G_iconst (pc := 16) (v := (-1)) h.1 dX8_booking_16 (by decide) ?_
    exact G_ret (pc := 17) h rfl dX8_booking_17
theorem dX8_wishTold_0 : decode cX8_wishTold 0 = .ok (.aload_n 0, 1) := by decide +kernel
theorem dX8_wishTold_1 : decode cX8_wishTold 1 = .ok (.getfield 12, 3) := by decide +kernel
theorem dX8_wishTold_4 : decode cX8_wishTold 4 = .ok (.getfield 166, 3) := by decide +kernel
theorem dX8_wishTold_7 : decode cX8_wishTold 7 = .ok (.astore_n 3, 1) := by decide +kernel
theorem dX8_wishTold_8 : decode cX8_wishTold 8 = .ok (.aload_n 3, 1) := by decide +kernel
theorem dX8_wishTold_9 : decode cX8_wishTold 9 = .ok (.iload_n 1, 1) := by decide +kernel
theorem dX8_wishTold_10 : decode cX8_wishTold 10 = .ok (.invokevirtual 174, 3) := by decide +kernel
theorem dX8_wishTold_13 : decode cX8_wishTold 13 = .ok (.ifCond .ne 5, 3) := by decide +kernel
theorem dX8_wishTold_16 : decode cX8_wishTold 16 = .ok (.iconst (-1), 1) := by decide +kernel
theorem dX8_wishTold_17 : decode cX8_wishTold 17 = .ok (.ireturn, 1) := by decide +kernel
theorem dX8_wishTold_18 : decode cX8_wishTold 18 = .ok (.iload_n 2, 1) := by decide +kernel
theorem dX8_wishTold_19 : decode cX8_wishTold 19 = .ok (.tableswitch 99 0 3 #[29, 36, 43, 50], 29) := by decide +kernel
theorem dX8_wishTold_48 : decode cX8_wishTold 48 = .ok (.aload_n 3, 1) := by decide +kernel
theorem dX8_wishTold_49 : decode cX8_wishTold 49 = .ok (.getfield 252, 3) := by decide +kernel
theorem dX8_wishTold_52 : decode cX8_wishTold 52 = .ok (.iload_n 1, 1) := by decide +kernel
theorem dX8_wishTold_53 : decode cX8_wishTold 53 = .ok (.iaload, 1) := by decide +kernel
theorem dX8_wishTold_54 : decode cX8_wishTold 54 = .ok (.ireturn, 1) := by decide +kernel
theorem dX8_wishTold_55 : decode cX8_wishTold 55 = .ok (.aload_n 3, 1) := by decide +kernel
theorem dX8_wishTold_56 : decode cX8_wishTold 56 = .ok (.getfield 175, 3) := by decide +kernel
theorem dX8_wishTold_59 : decode cX8_wishTold 59 = .ok (.iload_n 1, 1) := by decide +kernel
theorem dX8_wishTold_60 : decode cX8_wishTold 60 = .ok (.iaload, 1) := by decide +kernel
theorem dX8_wishTold_61 : decode cX8_wishTold 61 = .ok (.ireturn, 1) := by decide +kernel
theorem dX8_wishTold_62 : decode cX8_wishTold 62 = .ok (.aload_n 3, 1) := by decide +kernel
theorem dX8_wishTold_63 : decode cX8_wishTold 63 = .ok (.getfield 253, 3) := by decide +kernel
theorem dX8_wishTold_66 : decode cX8_wishTold 66 = .ok (.iload_n 1, 1) := by decide +kernel
theorem dX8_wishTold_67 : decode cX8_wishTold 67 = .ok (.iaload, 1) := by decide +kernel
theorem dX8_wishTold_68 : decode cX8_wishTold 68 = .ok (.ireturn, 1) := by decide +kernel
theorem dX8_wishTold_69 : decode cX8_wishTold 69 = .ok (.aload_n 0, 1) := by decide +kernel
theorem dX8_wishTold_70 : decode cX8_wishTold 70 = .ok (.getfield 50, 3) := by decide +kernel
theorem dX8_wishTold_73 : decode cX8_wishTold 73 = .ok (.aload_n 0, 1) := by decide +kernel
theorem dX8_wishTold_74 : decode cX8_wishTold 74 = .ok (.getfield 12, 3) := by decide +kernel
theorem dX8_wishTold_77 : decode cX8_wishTold 77 = .ok (.aload_n 0, 1) := by decide +kernel
theorem dX8_wishTold_78 : decode cX8_wishTold 78 = .ok (.getfield 12, 3) := by decide +kernel
theorem dX8_wishTold_81 : decode cX8_wishTold 81 = .ok (.getfield 106, 3) := by decide +kernel
theorem dX8_wishTold_84 : decode cX8_wishTold 84 = .ok (.getfield 158, 3) := by decide +kernel
theorem dX8_wishTold_87 : decode cX8_wishTold 87 = .ok (.aload_n 3, 1) := by decide +kernel
theorem dX8_wishTold_88 : decode cX8_wishTold 88 = .ok (.getfield 252, 3) := by decide +kernel
theorem dX8_wishTold_91 : decode cX8_wishTold 91 = .ok (.iload_n 1, 1) := by decide +kernel
theorem dX8_wishTold_92 : decode cX8_wishTold 92 = .ok (.iaload, 1) := by decide +kernel
theorem dX8_wishTold_93 : decode cX8_wishTold 93 = .ok (.aload_n 3, 1) := by decide +kernel
theorem dX8_wishTold_94 : decode cX8_wishTold 94 = .ok (.getfield 175, 3) := by decide +kernel
theorem dX8_wishTold_97 : decode cX8_wishTold 97 = .ok (.iload_n 1, 1) := by decide +kernel
theorem dX8_wishTold_98 : decode cX8_wishTold 98 = .ok (.iaload, 1) := by decide +kernel
theorem dX8_wishTold_99 : decode cX8_wishTold 99 = .ok (.aload_n 3, 1) := by decide +kernel
theorem dX8_wishTold_100 : decode cX8_wishTold 100 = .ok (.getfield 253, 3) := by decide +kernel
theorem dX8_wishTold_103 : decode cX8_wishTold 103 = .ok (.iload_n 1, 1) := by decide +kernel
theorem dX8_wishTold_104 : decode cX8_wishTold 104 = .ok (.iaload, 1) := by decide +kernel
theorem dX8_wishTold_105 : decode cX8_wishTold 105 = .ok (.aload_n 3, 1) := by decide +kernel
theorem dX8_wishTold_106 : decode cX8_wishTold 106 = .ok (.getfield 253, 3) := by decide +kernel
theorem dX8_wishTold_109 : decode cX8_wishTold 109 = .ok (.iload_n 1, 1) := by decide +kernel
theorem dX8_wishTold_110 : decode cX8_wishTold 110 = .ok (.iaload, 1) := by decide +kernel
theorem dX8_wishTold_111 : decode cX8_wishTold 111 = .ok (.bipush 20, 2) := by decide +kernel
theorem dX8_wishTold_113 : decode cX8_wishTold 113 = .ok (.iadd, 1) := by decide +kernel
theorem dX8_wishTold_114 : decode cX8_wishTold 114 = .ok (.invokevirtual 159, 3) := by decide +kernel
theorem dX8_wishTold_117 : decode cX8_wishTold 117 = .ok (.ireturn, 1) := by decide +kernel
theorem dX8_wishTold_118 : decode cX8_wishTold 118 = .ok (.bipush (-2), 2) := by decide +kernel
theorem dX8_wishTold_120 : decode cX8_wishTold 120 = .ok (.ireturn, 1) := by decide +kernel
abbrev rX8_wishTold : Room := { frames := 5, cells := 0, slots := 0, locals := 126 }
set_option maxRecDepth 20000 in
theorem c_X8_wishTold (l : Launch) (y : Cy) (hy : Inj y) (p1 : Int32) (p2 : Int32) (M : Mem) : CT l y yX8_wishTold cX8_wishTold 4 (some .int) rX8_wishTold [.ref (y.2.1 141), .int p1, .int p2] M (d_X8_wishTold p1 p2 M) := by
  refine CT_of (by decide) hy (Nat.le_of_ble_eq_true rfl) (fun x hxl h => ?_)
  show G x y 0 [(0, .ref (y.2.1 141)), (1, .int p1), (2, .int p2)] [] M _
  unfold d_X8_wishTold
  refine G_aload_n (pc := 0) h.1 dX8_wishTold_0 rfl 0 rfl ?_
  refine G_get (pc := 1) (v := .ref (y.2.1 (sI 0 0))) h.1 fl_X8_12 lN141 (eM141 _) rfl dX8_wishTold_1 ?_
  refine G_get (pc := 4) (v := .ref (y.2.1 (sI 0 12))) h.1 fl_X8_166 (ids_s h7_0 0 (by decide)) (eS0 h7_0 _) rfl dX8_wishTold_4 ?_
  refine G_astore_n (pc := 7) h.1 h.2.1 [(3, .ref (y.2.1 (sI 0 12))), (0, .ref (y.2.1 141)), (1, .int p1), (2, .int p2)] dX8_wishTold_7 rfl (by decide) rfl ?_
  refine G_aload_n (pc := 8) h.1 dX8_wishTold_8 rfl 0 rfl ?_
  refine G_iload_n (pc := 9) h.1 dX8_wishTold_9 rfl 2 rfl ?_
  refine G_callV (pc := 10) (As := [.int p1]) (rest := []) h.1 h.2.2.1 lk_X8_174 (ids_s h7_0 12 (by decide)) (eS12 h7_0 _) rfl rfl (c_X7_has x.1.2.1 y hy 0 h7_0 p1 M) rfl rfl (Nat.le_of_ble_eq_true rfl) ⟨rfl, rfl, Nat.le_of_ble_eq_true rfl, Nat.le_of_ble_eq_true rfl⟩ dX8_wishTold_10 (fun r2 M1 => ?_)
  refine G_if_ne (pc := 13) (tgt := 18) h.1 dX8_wishTold_13 (by decide) ?_ ?_
  · refine G_iload_n (pc := 18) h.1 dX8_wishTold_18 rfl 3 rfl ?_
    refine G_ite (fun c3 => ?_) (fun c3 => ?_)
    · refine G_tabIn (z := 0) (off := 29) (tgt := 48) h.1 dX8_wishTold_19 c3 (by decide) (by decide) (by decide) rfl (by decide) ?_
      refine G_aload_n (pc := 48) h.1 dX8_wishTold_48 rfl 0 rfl ?_
      refine G_get (pc := 49) (v := .ref (y.2.1 (sI 0 13))) h.1 fl_X8_252 (ids_s h7_0 12 (by decide)) (eS12 h7_0 _) rfl dX8_wishTold_49 ?_
      refine G_iload_n (pc := 52) h.1 dX8_wishTold_52 rfl 2 rfl ?_
      refine G_iald (pc := 53) h.1 (ids_s h7_0 13 (by decide)) (eS13 h7_0 _) dX8_wishTold_53 ?_
      exact G_ret (pc := 54) h rfl dX8_wishTold_54
    refine G_ite (fun c4 => ?_) (fun c4 => ?_)
    · refine G_tabIn (z := 1) (off := 36) (tgt := 55) h.1 dX8_wishTold_19 c4 (by decide) (by decide) (by decide) rfl (by decide) ?_
      refine G_aload_n (pc := 55) h.1 dX8_wishTold_55 rfl 0 rfl ?_
      refine G_get (pc := 56) (v := .ref (y.2.1 (sI 0 14))) h.1 fl_X8_175 (ids_s h7_0 12 (by decide)) (eS12 h7_0 _) rfl dX8_wishTold_56 ?_
      refine G_iload_n (pc := 59) h.1 dX8_wishTold_59 rfl 2 rfl ?_
      refine G_iald (pc := 60) h.1 (ids_s h7_0 14 (by decide)) (eS14 h7_0 _) dX8_wishTold_60 ?_
      exact G_ret (pc := 61) h rfl dX8_wishTold_61
    refine G_ite (fun c5 => ?_) (fun c5 => ?_)
    · refine G_tabIn (z := 2) (off := 43) (tgt := 62) h.1 dX8_wishTold_19 c5 (by decide) (by decide) (by decide) rfl (by decide) ?_
      refine G_aload_n (pc := 62) h.1 dX8_wishTold_62 rfl 0 rfl ?_
      refine G_get (pc := 63) (v := .ref (y.2.1 (sI 0 15))) h.1 fl_X8_253 (ids_s h7_0 12 (by decide)) (eS12 h7_0 _) rfl dX8_wishTold_63 ?_
      refine G_iload_n (pc := 66) h.1 dX8_wishTold_66 rfl 2 rfl ?_
      refine G_iald (pc := 67) h.1 (ids_s h7_0 15 (by decide)) (eS15 h7_0 _) dX8_wishTold_67 ?_
      exact G_ret (pc := 68) h rfl dX8_wishTold_68
    refine G_ite (fun c8 => ?_) (fun c8 => ?_)
    · refine G_tabIn (z := 3) (off := 50) (tgt := 69) h.1 dX8_wishTold_19 c8 (by decide) (by decide) (by decide) rfl (by decide) ?_
      refine G_aload_n (pc := 69) h.1 dX8_wishTold_69 rfl 1 rfl ?_
      refine G_get (pc := 70) (v := .ref (y.2.1 132)) h.1 fl_X8_50 lN141 (eM141 _) rfl dX8_wishTold_70 ?_
      refine G_aload_n (pc := 73) h.1 dX8_wishTold_73 rfl 1 rfl ?_
      refine G_get (pc := 74) (v := .ref (y.2.1 (sI 0 0))) h.1 fl_X8_12 lN141 (eM141 _) rfl dX8_wishTold_74 ?_
      refine G_aload_n (pc := 77) h.1 dX8_wishTold_77 rfl 1 rfl ?_
      refine G_get (pc := 78) (v := .ref (y.2.1 (sI 0 0))) h.1 fl_X8_12 lN141 (eM141 _) rfl dX8_wishTold_78 ?_
      refine G_get (pc := 81) (v := .ref (y.2.1 (sI 0 6))) h.1 fl_X8_106 (ids_s h7_0 0 (by decide)) (eS0 h7_0 _) rfl dX8_wishTold_81 ?_
      refine G_get (pc := 84) (v := .int (M1 (sI 0 6) 0)) h.1 fl_X8_158 (ids_s h7_0 6 (by decide)) (eS6 h7_0 _) rfl dX8_wishTold_84 ?_
      refine G_aload_n (pc := 87) h.1 dX8_wishTold_87 rfl 0 rfl ?_
      refine G_get (pc := 88) (v := .ref (y.2.1 (sI 0 13))) h.1 fl_X8_252 (ids_s h7_0 12 (by decide)) (eS12 h7_0 _) rfl dX8_wishTold_88 ?_
      refine G_iload_n (pc := 91) h.1 dX8_wishTold_91 rfl 2 rfl ?_
      refine G_iald (pc := 92) h.1 (ids_s h7_0 13 (by decide)) (eS13 h7_0 _) dX8_wishTold_92 ?_
      refine G_aload_n (pc := 93) h.1 dX8_wishTold_93 rfl 0 rfl ?_
      refine G_get (pc := 94) (v := .ref (y.2.1 (sI 0 14))) h.1 fl_X8_175 (ids_s h7_0 12 (by decide)) (eS12 h7_0 _) rfl dX8_wishTold_94 ?_
      refine G_iload_n (pc := 97) h.1 dX8_wishTold_97 rfl 2 rfl ?_
      refine G_iald (pc := 98) h.1 (ids_s h7_0 14 (by decide)) (eS14 h7_0 _) dX8_wishTold_98 ?_
      refine G_aload_n (pc := 99) h.1 dX8_wishTold_99 rfl 0 rfl ?_
      refine G_get (pc := 100) (v := .ref (y.2.1 (sI 0 15))) h.1 fl_X8_253 (ids_s h7_0 12 (by decide)) (eS12 h7_0 _) rfl dX8_wishTold_100 ?_
      refine G_iload_n (pc := 103) h.1 dX8_wishTold_103 rfl 2 rfl ?_
      refine G_iald (pc := 104) h.1 (ids_s h7_0 15 (by decide)) (eS15 h7_0 _) dX8_wishTold_104 ?_
      refine G_aload_n (pc := 105) h.1 dX8_wishTold_105 rfl 0 rfl ?_
      refine G_get (pc := 106) (v := .ref (y.2.1 (sI 0 15))) h.1 fl_X8_253 (ids_s h7_0 12 (by decide)) (eS12 h7_0 _) rfl dX8_wishTold_106 ?_
      refine G_iload_n (pc := 109) h.1 dX8_wishTold_109 rfl 2 rfl ?_
      refine G_iald (pc := 110) h.1 (ids_s h7_0 15 (by decide)) (eS15 h7_0 _) dX8_wishTold_110 ?_
      refine G_bipush (pc := 111) (v := (20)) h.1 dX8_wishTold_111 (by decide) ?_
      refine G_iadd (pc := 113) h.1 dX8_wishTold_113 ?_
      refine G_callV (pc := 114) (As := [.ref (y.2.1 (sI 0 0)), .int (M1 (sI 0 6) 0), .int (M1 (sI 0 13) (p1).toNatClampNeg), .int (M1 (sI 0 14) (p1).toNatClampNeg), .int (M1 (sI 0 15) (p1).toNatClampNeg), .int ((M1 (sI 0 15) (p1).toNatClampNeg) + (20 : Int32))]) (rest := []) h.1 h.2.2.1 lk_X8_159 lN132 (eM132 _) rfl rfl (c_X3_firstFit x.1.2.1 y hy 0 h7_0 (M1 (sI 0 6) 0) (M1 (sI 0 13) (p1).toNatClampNeg) (M1 (sI 0 14) (p1).toNatClampNeg) (M1 (sI 0 15) (p1).toNatClampNeg) ((M1 (sI 0 15) (p1).toNatClampNeg) + (20 : Int32)) M1) rfl rfl (Nat.le_of_ble_eq_true rfl) ⟨rfl, rfl, Nat.le_of_ble_eq_true rfl, Nat.le_of_ble_eq_true rfl⟩ dX8_wishTold_114 (fun r7 M6 => ?_)
      exact G_ret (pc := 117) h rfl dX8_wishTold_117
    refine G_tabOut (tgt := 118) h.1 dX8_wishTold_19 (by have hz := And.intro trivial trivial; have z0 := g_ne c3 0 (by decide); have z1 := g_ne c4 1 (by decide); have z2 := g_ne c5 2 (by decide); have z3 := g_ne c8 3 (by decide); omega) (by decide) ?_
    refine G_bipush (pc := 118) (v := (-2)) h.1 dX8_wishTold_118 (by decide) ?_
    exact G_ret (pc := 120) h rfl dX8_wishTold_120
  · refine G_iconst (pc := 16) (v := (-1)) h.1 dX8_wishTold_16 (by decide) ?_
    exact G_ret (pc := 17) h rfl dX8_wishTold_17
theorem dX8_pressureIn_0 : decode cX8_pressureIn 0 = .ok (.iload_n 1, 1) := by decide +kernel
theorem dX8_pressureIn_1 : decode cX8_pressureIn 1 = .ok (.iconst 0, 1) := by decide +kernel
theorem dX8_pressureIn_2 : decode cX8_pressureIn 2 = .ok (.sipush 200, 3) := by decide +kernel
theorem dX8_pressureIn_5 : decode cX8_pressureIn 5 = .ok (.invokestatic 58, 3) := by decide +kernel
theorem dX8_pressureIn_8 : decode cX8_pressureIn 8 = .ok (.ifCond .ne 6, 3) := by decide +kernel
theorem dX8_pressureIn_11 : decode cX8_pressureIn 11 = .ok (.bipush (-2), 2) := by decide +kernel
theorem dX8_pressureIn_13 : decode cX8_pressureIn 13 = .ok (.ireturn, 1) := by decide +kernel
theorem dX8_pressureIn_14 : decode cX8_pressureIn 14 = .ok (.aload_n 0, 1) := by decide +kernel
theorem dX8_pressureIn_15 : decode cX8_pressureIn 15 = .ok (.getfield 43, 3) := by decide +kernel
theorem dX8_pressureIn_18 : decode cX8_pressureIn 18 = .ok (.aload_n 0, 1) := by decide +kernel
theorem dX8_pressureIn_19 : decode cX8_pressureIn 19 = .ok (.getfield 12, 3) := by decide +kernel
theorem dX8_pressureIn_22 : decode cX8_pressureIn 22 = .ok (.invokevirtual 183, 3) := by decide +kernel
theorem dX8_pressureIn_25 : decode cX8_pressureIn 25 = .ok (.aload_n 0, 1) := by decide +kernel
theorem dX8_pressureIn_26 : decode cX8_pressureIn 26 = .ok (.getfield 43, 3) := by decide +kernel
theorem dX8_pressureIn_29 : decode cX8_pressureIn 29 = .ok (.iload_n 1, 1) := by decide +kernel
theorem dX8_pressureIn_30 : decode cX8_pressureIn 30 = .ok (.invokevirtual 186, 3) := by decide +kernel
theorem dX8_pressureIn_33 : decode cX8_pressureIn 33 = .ok (.aload_n 0, 1) := by decide +kernel
theorem dX8_pressureIn_34 : decode cX8_pressureIn 34 = .ok (.getfield 43, 3) := by decide +kernel
theorem dX8_pressureIn_37 : decode cX8_pressureIn 37 = .ok (.getfield 256, 3) := by decide +kernel
theorem dX8_pressureIn_40 : decode cX8_pressureIn 40 = .ok (.ireturn, 1) := by decide +kernel
abbrev rX8_pressureIn : Room := { frames := 4, cells := 0, slots := 0, locals := 92 }
set_option maxRecDepth 20000 in
theorem c_X8_pressureIn (l : Launch) (y : Cy) (hy : Inj y) (p1 : Int32) (M : Mem) : CT l y yX8_pressureIn cX8_pressureIn 2 (some .int) rX8_pressureIn [.ref (y.2.1 141), .int p1] M (d_X8_pressureIn p1 M) := by
  refine CT_of (by decide) hy (Nat.le_of_ble_eq_true rfl) (fun x hxl h => ?_)
  show G x y 0 [(0, .ref (y.2.1 141)), (1, .int p1)] [] M _
  unfold d_X8_pressureIn
  refine G_iload_n (pc := 0) h.1 dX8_pressureIn_0 rfl 1 rfl ?_
  refine G_iconst (pc := 1) (v := (0)) h.1 dX8_pressureIn_1 (by decide) ?_
  refine G_sipush (pc := 2) (v := (200)) h.1 dX8_pressureIn_2 (by decide) ?_
  refine G_callS (pc := 5) (As := [.int p1, .int (0 : Int32), .int (200 : Int32)]) (rest := []) h.1 h.2.2.1 lk_X8_58 (c_X8_within x.1.2.1 y hy p1 (0 : Int32) (200 : Int32) M) rfl rfl (Nat.le_of_ble_eq_true rfl) ⟨rfl, rfl, Nat.le_of_ble_eq_true rfl, Nat.le_of_ble_eq_true rfl⟩ dX8_pressureIn_5 (fun r2 M1 => ?_)
  refine G_if_ne (pc := 8) (tgt := 14) h.1 dX8_pressureIn_8 (by decide) ?_ ?_
  · refine G_aload_n (pc := 14) h.1 dX8_pressureIn_14 rfl 0 rfl ?_
    refine G_get (pc := 15) (v := .ref (y.2.1 (cI 0 0))) h.1 fl_X8_43 lN141 (eM141 _) rfl dX8_pressureIn_15 ?_
    refine G_aload_n (pc := 18) h.1 dX8_pressureIn_18 rfl 0 rfl ?_
    refine G_get (pc := 19) (v := .ref (y.2.1 (sI 0 0))) h.1 fl_X8_12 lN141 (eM141 _) rfl dX8_pressureIn_19 ?_
    refine G_callVv (pc := 22) (As := [.ref (y.2.1 (sI 0 0))]) (rest := []) h.1 h.2.2.1 lk_X8_183 (ids_c h2_0 0 (by decide)) (eC0 h2_0 _) rfl rfl (c_X1_begin x.1.2.1 y hy 0 0 h2_0 h7_0 M1) rfl rfl (Nat.le_of_ble_eq_true rfl) ⟨rfl, rfl, Nat.le_of_ble_eq_true rfl, Nat.le_of_ble_eq_true rfl⟩ dX8_pressureIn_22 (fun r4 M3 => ?_)
    refine G_aload_n (pc := 25) h.1 dX8_pressureIn_25 rfl 0 rfl ?_
    refine G_get (pc := 26) (v := .ref (y.2.1 (cI 0 0))) h.1 fl_X8_43 lN141 (eM141 _) rfl dX8_pressureIn_26 ?_
    refine G_iload_n (pc := 29) h.1 dX8_pressureIn_29 rfl 1 rfl ?_
    refine G_callVv (pc := 30) (As := [.int p1]) (rest := []) h.1 h.2.2.1 lk_X8_186 (ids_c h2_0 0 (by decide)) (eC0 h2_0 _) rfl rfl (c_X1_passTicks x.1.2.1 y hy 0 h2_0 p1 M3) rfl rfl (Nat.le_of_ble_eq_true rfl) ⟨rfl, rfl, Nat.le_of_ble_eq_true rfl, Nat.le_of_ble_eq_true rfl⟩ dX8_pressureIn_30 (fun r6 M5 => ?_)
    refine G_aload_n (pc := 33) h.1 dX8_pressureIn_33 rfl 0 rfl ?_
    refine G_get (pc := 34) (v := .ref (y.2.1 (cI 0 0))) h.1 fl_X8_43 lN141 (eM141 _) rfl dX8_pressureIn_34 ?_
    refine G_get (pc := 37) (v := .int (M5 (cI 0 0) 1)) h.1 fl_X8_256 (ids_c h2_0 0 (by decide)) (eC0 h2_0 _) rfl dX8_pressureIn_37 ?_
    exact G_ret (pc := 40) h rfl dX8_pressureIn_40
  · refine G_bipush (pc := 11) (v := (-2)) h.1 dX8_pressureIn_11 (by decide) ?_
    exact G_ret (pc := 13) h rfl dX8_pressureIn_13
theorem dX8_lowestIn_0 : decode cX8_lowestIn 0 = .ok (.iload_n 1, 1) := by decide +kernel
theorem dX8_lowestIn_1 : decode cX8_lowestIn 1 = .ok (.iconst 1, 1) := by decide +kernel
theorem dX8_lowestIn_2 : decode cX8_lowestIn 2 = .ok (.sipush 200, 3) := by decide +kernel
theorem dX8_lowestIn_5 : decode cX8_lowestIn 5 = .ok (.invokestatic 58, 3) := by decide +kernel
theorem dX8_lowestIn_8 : decode cX8_lowestIn 8 = .ok (.ifCond .ne 6, 3) := by decide +kernel
theorem dX8_lowestIn_11 : decode cX8_lowestIn 11 = .ok (.bipush (-2), 2) := by decide +kernel
theorem dX8_lowestIn_13 : decode cX8_lowestIn 13 = .ok (.ireturn, 1) := by decide +kernel
theorem dX8_lowestIn_14 : decode cX8_lowestIn 14 = .ok (.aload_n 0, 1) := by decide +kernel
theorem dX8_lowestIn_15 : decode cX8_lowestIn 15 = .ok (.getfield 43, 3) := by decide +kernel
theorem dX8_lowestIn_18 : decode cX8_lowestIn 18 = .ok (.aload_n 0, 1) := by decide +kernel
theorem dX8_lowestIn_19 : decode cX8_lowestIn 19 = .ok (.getfield 12, 3) := by decide +kernel
theorem dX8_lowestIn_22 : decode cX8_lowestIn 22 = .ok (.invokevirtual 183, 3) := by decide +kernel
theorem dX8_lowestIn_25 : decode cX8_lowestIn 25 = .ok (.aload_n 0, 1) := by decide +kernel
theorem dX8_lowestIn_26 : decode cX8_lowestIn 26 = .ok (.getfield 43, 3) := by decide +kernel
theorem dX8_lowestIn_29 : decode cX8_lowestIn 29 = .ok (.iload_n 1, 1) := by decide +kernel
theorem dX8_lowestIn_30 : decode cX8_lowestIn 30 = .ok (.invokevirtual 186, 3) := by decide +kernel
theorem dX8_lowestIn_33 : decode cX8_lowestIn 33 = .ok (.aload_n 0, 1) := by decide +kernel
theorem dX8_lowestIn_34 : decode cX8_lowestIn 34 = .ok (.getfield 43, 3) := by decide +kernel
theorem dX8_lowestIn_37 : decode cX8_lowestIn 37 = .ok (.getfield 257, 3) := by decide +kernel
theorem dX8_lowestIn_40 : decode cX8_lowestIn 40 = .ok (.ireturn, 1) := by decide +kernel
abbrev rX8_lowestIn : Room := { frames := 4, cells := 0, slots := 0, locals := 92 }
set_option maxRecDepth 20000 in
theorem c_X8_lowestIn (l : Launch) (y : Cy) (hy : Inj y) (p1 : Int32) (M : Mem) : CT l y yX8_lowestIn cX8_lowestIn 2 (some .int) rX8_lowestIn [.ref (y.2.1 141), .int p1] M (d_X8_lowestIn p1 M) := by
  refine CT_of (by decide) hy (Nat.le_of_ble_eq_true rfl) (fun x hxl h => ?_)
  show G x y 0 [(0, .ref (y.2.1 141)), (1, .int p1)] [] M _
  unfold d_X8_lowestIn
  refine G_iload_n (pc := 0) h.1 dX8_lowestIn_0 rfl 1 rfl ?_
  refine G_iconst (pc := 1) (v := (1)) h.1 dX8_lowestIn_1 (by decide) ?_
  refine G_sipush (pc := 2) (v := (200)) h.1 dX8_lowestIn_2 (by decide) ?_
  refine G_callS (pc := 5) (As := [.int p1, .int (1 : Int32), .int (200 : Int32)]) (rest := []) h.1 h.2.2.1 lk_X8_58 (c_X8_within x.1.2.1 y hy p1 (1 : Int32) (200 : Int32) M) rfl rfl (Nat.le_of_ble_eq_true rfl) ⟨rfl, rfl, Nat.le_of_ble_eq_true rfl, Nat.le_of_ble_eq_true rfl⟩ dX8_lowestIn_5 (fun r2 M1 => ?_)
  refine G_if_ne (pc := 8) (tgt := 14) h.1 dX8_lowestIn_8 (by decide) ?_ ?_
  · refine G_aload_n (pc := 14) h.1 dX8_lowestIn_14 rfl 0 rfl ?_
    refine G_get (pc := 15) (v := .ref (y.2.1 (cI 0 0))) h.1 fl_X8_43 lN141 (eM141 _) rfl dX8_lowestIn_15 ?_
    refine G_aload_n (pc := 18) h.1 dX8_lowestIn_18 rfl 0 rfl ?_
    refine G_get (pc := 19) (v := .ref (y.2.1 (sI 0 0))) h.1 fl_X8_12 lN141 (eM141 _) rfl dX8_lowestIn_19 ?_
    refine G_callVv (pc := 22) (As := [.ref (y.2.1 (sI 0 0))]) (rest := []) h.1 h.2.2.1 lk_X8_183 (ids_c h2_0 0 (by decide)) (eC0 h2_0 _) rfl rfl (c_X1_begin x.1.2.1 y hy 0 0 h2_0 h7_0 M1) rfl rfl (Nat.le_of_ble_eq_true rfl) ⟨rfl, rfl, Nat.le_of_ble_eq_true rfl, Nat.le_of_ble_eq_true rfl⟩ dX8_lowestIn_22 (fun r4 M3 => ?_)
    refine G_aload_n (pc := 25) h.1 dX8_lowestIn_25 rfl 0 rfl ?_
    refine G_get (pc := 26) (v := .ref (y.2.1 (cI 0 0))) h.1 fl_X8_43 lN141 (eM141 _) rfl dX8_lowestIn_26 ?_
    refine G_iload_n (pc := 29) h.1 dX8_lowestIn_29 rfl 1 rfl ?_
    refine G_callVv (pc := 30) (As := [.int p1]) (rest := []) h.1 h.2.2.1 lk_X8_186 (ids_c h2_0 0 (by decide)) (eC0 h2_0 _) rfl rfl (c_X1_passTicks x.1.2.1 y hy 0 h2_0 p1 M3) rfl rfl (Nat.le_of_ble_eq_true rfl) ⟨rfl, rfl, Nat.le_of_ble_eq_true rfl, Nat.le_of_ble_eq_true rfl⟩ dX8_lowestIn_30 (fun r6 M5 => ?_)
    refine G_aload_n (pc := 33) h.1 dX8_lowestIn_33 rfl 0 rfl ?_
    refine G_get (pc := 34) (v := .ref (y.2.1 (cI 0 0))) h.1 fl_X8_43 lN141 (eM141 _) rfl dX8_lowestIn_34 ?_
    refine G_get (pc := 37) (v := .int (M5 (cI 0 0) 4)) h.1 fl_X8_257 (ids_c h2_0 0 (by decide)) (eC0 h2_0 _) rfl dX8_lowestIn_37 ?_
    exact G_ret (pc := 40) h rfl dX8_lowestIn_40
  · refine G_bipush (pc := 11) (v := (-2)) h.1 dX8_lowestIn_11 (by decide) ?_
    exact G_ret (pc := 13) h rfl dX8_lowestIn_13
theorem dX8_why_0 : decode cX8_why 0 = .ok (.iload_n 1, 1) := by decide +kernel
theorem dX8_why_1 : decode cX8_why 1 = .ok (.invokestatic 154, 3) := by decide +kernel
theorem dX8_why_4 : decode cX8_why 4 = .ok (.ifCond .eq 17, 3) := by decide +kernel
theorem dX8_why_7 : decode cX8_why 7 = .ok (.aload_n 0, 1) := by decide +kernel
theorem dX8_why_8 : decode cX8_why 8 = .ok (.getfield 12, 3) := by decide +kernel
theorem dX8_why_11 : decode cX8_why 11 = .ok (.getfield 62, 3) := by decide +kernel
theorem dX8_why_14 : decode cX8_why 14 = .ok (.iload_n 2, 1) := by decide +kernel
theorem dX8_why_15 : decode cX8_why 15 = .ok (.invokevirtual 157, 3) := by decide +kernel
theorem dX8_why_18 : decode cX8_why 18 = .ok (.ifCond .ne 5, 3) := by decide +kernel
theorem dX8_why_21 : decode cX8_why 21 = .ok (.iconst (-1), 1) := by decide +kernel
theorem dX8_why_22 : decode cX8_why 22 = .ok (.ireturn, 1) := by decide +kernel
theorem dX8_why_23 : decode cX8_why 23 = .ok (.aload_n 0, 1) := by decide +kernel
theorem dX8_why_24 : decode cX8_why 24 = .ok (.getfield 12, 3) := by decide +kernel
theorem dX8_why_27 : decode cX8_why 27 = .ok (.iload_n 3, 1) := by decide +kernel
theorem dX8_why_28 : decode cX8_why 28 = .ok (.invokevirtual 128, 3) := by decide +kernel
theorem dX8_why_31 : decode cX8_why 31 = .ok (.ifCond .eq 13, 3) := by decide +kernel
theorem dX8_why_34 : decode cX8_why 34 = .ok (.iload 4, 2) := by decide +kernel
theorem dX8_why_36 : decode cX8_why 36 = .ok (.iconst 0, 1) := by decide +kernel
theorem dX8_why_37 : decode cX8_why 37 = .ok (.iconst 2, 1) := by decide +kernel
theorem dX8_why_38 : decode cX8_why 38 = .ok (.invokestatic 58, 3) := by decide +kernel
theorem dX8_why_41 : decode cX8_why 41 = .ok (.ifCond .ne 6, 3) := by decide +kernel
theorem dX8_why_44 : decode cX8_why 44 = .ok (.bipush (-2), 2) := by decide +kernel
theorem dX8_why_46 : decode cX8_why 46 = .ok (.ireturn, 1) := by decide +kernel
theorem dX8_why_47 : decode cX8_why 47 = .ok (.aload_n 0, 1) := by decide +kernel
theorem dX8_why_48 : decode cX8_why 48 = .ok (.getfield 50, 3) := by decide +kernel
theorem dX8_why_51 : decode cX8_why 51 = .ok (.aload_n 0, 1) := by decide +kernel
theorem dX8_why_52 : decode cX8_why 52 = .ok (.getfield 12, 3) := by decide +kernel
theorem dX8_why_55 : decode cX8_why 55 = .ok (.aload_n 0, 1) := by decide +kernel
theorem dX8_why_56 : decode cX8_why 56 = .ok (.getfield 12, 3) := by decide +kernel
theorem dX8_why_59 : decode cX8_why 59 = .ok (.getfield 106, 3) := by decide +kernel
theorem dX8_why_62 : decode cX8_why 62 = .ok (.getfield 158, 3) := by decide +kernel
theorem dX8_why_65 : decode cX8_why 65 = .ok (.iload_n 1, 1) := by decide +kernel
theorem dX8_why_66 : decode cX8_why 66 = .ok (.iload_n 2, 1) := by decide +kernel
theorem dX8_why_67 : decode cX8_why 67 = .ok (.iload_n 3, 1) := by decide +kernel
theorem dX8_why_68 : decode cX8_why 68 = .ok (.invokevirtual 137, 3) := by decide +kernel
theorem dX8_why_71 : decode cX8_why 71 = .ok (.istore 5, 2) := by decide +kernel
theorem dX8_why_73 : decode cX8_why 73 = .ok (.iload 4, 2) := by decide +kernel
theorem dX8_why_75 : decode cX8_why 75 = .ok (.lookupswitch 36 #[(0, 25), (1, 28)], 25) := by decide +kernel
theorem dX8_why_100 : decode cX8_why 100 = .ok (.iload 5, 2) := by decide +kernel
theorem dX8_why_102 : decode cX8_why 102 = .ok (.ireturn, 1) := by decide +kernel
theorem dX8_why_103 : decode cX8_why 103 = .ok (.aload_n 0, 1) := by decide +kernel
theorem dX8_why_104 : decode cX8_why 104 = .ok (.getfield 50, 3) := by decide +kernel
theorem dX8_why_107 : decode cX8_why 107 = .ok (.getfield 260, 3) := by decide +kernel
theorem dX8_why_110 : decode cX8_why 110 = .ok (.ireturn, 1) := by decide +kernel
theorem dX8_why_111 : decode cX8_why 111 = .ok (.aload_n 0, 1) := by decide +kernel
theorem dX8_why_112 : decode cX8_why 112 = .ok (.getfield 50, 3) := by decide +kernel
theorem dX8_why_115 : decode cX8_why 115 = .ok (.getfield 263, 3) := by decide +kernel
theorem dX8_why_118 : decode cX8_why 118 = .ok (.ireturn, 1) := by decide +kernel
abbrev rX8_why : Room := { frames := 5, cells := 0, slots := 0, locals := 122 }
set_option maxRecDepth 20000 in
theorem c_X8_why (l : Launch) (y : Cy) (hy : Inj y) (p1 : Int32) (p2 : Int32) (p3 : Int32) (p4 : Int32) (M : Mem) : CT l y yX8_why cX8_why 6 (some .int) rX8_why [.ref (y.2.1 141), .int p1, .int p2, .int p3, .int p4] M (d_X8_why p1 p2 p3 p4 M) := by
  refine CT_of (by decide) hy (Nat.le_of_ble_eq_true rfl) (fun x hxl h => ?_)
  show G x y 0 [(0, .ref (y.2.1 141)), (1, .int p1), (2, .int p2), (3, .int p3), (4, .int p4)] [] M _
  unfold d_X8_why
  refine G_iload_n (pc := 0) h.1 dX8_why_0 rfl 1 rfl ?_
  refine G_callS (pc := 1) (As := [.int p1]) (rest := []) h.1 h.2.2.1 lk_X8_154 (c_X8_isRobot x.1.2.1 y hy p1 M) rfl rfl (Nat.le_of_ble_eq_true rfl) ⟨rfl, rfl, Nat.le_of_ble_eq_true rfl, Nat.le_of_ble_eq_true rfl⟩ dX8_why_1 (fun r2 M1 => ?_)
  refine G_if_eq (pc := 4) (tgt := 21) h.1 dX8_why_4 (by decide) ?_ ?_
  · refine G_iconst (pc := 21) (v := (-1)) h.1 dX8_why_21 (by decide) ?_
    exact G_ret (pc := 22) h rfl dX8_why_22
  · refine G_aload_n (pc := 7) h.1 dX8_why_7 rfl 0 rfl ?_
    refine G_get (pc := 8) (v := .ref (y.2.1 (sI 0 0))) h.1 fl_X8_12 lN141 (eM141 _) rfl dX8_why_8 ?_
    refine G_get (pc := 11) (v := .ref (y.2.1 (sI 0 1))) h.1 fl_X8_62 (ids_s h7_0 0 (by decide)) (eS0 h7_0 _) rfl dX8_why_11 ?_
    refine G_iload_n (pc := 14) h.1 dX8_why_14 rfl 2 rfl ?_
    refine G_callV (pc := 15) (As := [.int p2]) (rest := []) h.1 h.2.2.1 lk_X8_157 (ids_s h7_0 1 (by decide)) (eS1 h7_0 _) rfl rfl (c_X4_has x.1.2.1 y hy 0 h7_0 p2 M1) rfl rfl (Nat.le_of_ble_eq_true rfl) ⟨rfl, rfl, Nat.le_of_ble_eq_true rfl, Nat.le_of_ble_eq_true rfl⟩ dX8_why_15 (fun r4 M3 => ?_)
    refine G_if_ne (pc := 18) (tgt := 23) h.1 dX8_why_18 (by decide) ?_ ?_
    · refine G_aload_n (pc := 23) h.1 dX8_why_23 rfl 0 rfl ?_
      refine G_get (pc := 24) (v := .ref (y.2.1 (sI 0 0))) h.1 fl_X8_12 lN141 (eM141 _) rfl dX8_why_24 ?_
      refine G_iload_n (pc := 27) h.1 dX8_why_27 rfl 3 rfl ?_
      refine G_callV (pc := 28) (As := [.int p3]) (rest := []) h.1 h.2.2.1 lk_X8_128 (ids_s h7_0 0 (by decide)) (eS0 h7_0 _) rfl rfl (c_X5_canStart x.1.2.1 y hy 0 h7_0 p3 M3) rfl rfl (Nat.le_of_ble_eq_true rfl) ⟨rfl, rfl, Nat.le_of_ble_eq_true rfl, Nat.le_of_ble_eq_true rfl⟩ dX8_why_28 (fun r6 M5 => ?_)
      refine G_if_eq (pc := 31) (tgt := 44) h.1 dX8_why_31 (by decide) ?_ ?_
      · refine G_bipush (pc := 44) (v := (-2)) h.1 dX8_why_44 (by decide) ?_
        exact G_ret (pc := 46) h rfl dX8_why_46
      · refine G_iload (pc := 34) h.1 dX8_why_34 4 rfl ?_
        refine G_iconst (pc := 36) (v := (0)) h.1 dX8_why_36 (by decide) ?_
        refine G_iconst (pc := 37) (v := (2)) h.1 dX8_why_37 (by decide) ?_
        refine G_callS (pc := 38) (As := [.int p4, .int (0 : Int32), .int (2 : Int32)]) (rest := []) h.1 h.2.2.1 lk_X8_58 (c_X8_within x.1.2.1 y hy p4 (0 : Int32) (2 : Int32) M5) rfl rfl (Nat.le_of_ble_eq_true rfl) ⟨rfl, rfl, Nat.le_of_ble_eq_true rfl, Nat.le_of_ble_eq_true rfl⟩ dX8_why_38 (fun r8 M7 => ?_)
        refine G_if_ne (pc := 41) (tgt := 47) h.1 dX8_why_41 (by decide) ?_ ?_
        · refine G_aload_n (pc := 47) h.1 dX8_why_47 rfl 0 rfl ?_
          refine G_get (pc := 48) (v := .ref (y.2.1 132)) h.1 fl_X8_50 lN141 (eM141 _) rfl dX8_why_48 ?_
          refine G_aload_n (pc := 51) h.1 dX8_why_51 rfl 0 rfl ?_
          refine G_get (pc := 52) (v := .ref (y.2.1 (sI 0 0))) h.1 fl_X8_12 lN141 (eM141 _) rfl dX8_why_52 ?_
          refine G_aload_n (pc := 55) h.1 dX8_why_55 rfl 0 rfl ?_
          refine G_get (pc := 56) (v := .ref (y.2.1 (sI 0 0))) h.1 fl_X8_12 lN141 (eM141 _) rfl dX8_why_56 ?_
          refine G_get (pc := 59) (v := .ref (y.2.1 (sI 0 6))) h.1 fl_X8_106 (ids_s h7_0 0 (by decide)) (eS0 h7_0 _) rfl dX8_why_59 ?_
          refine G_get (pc := 62) (v := .int (M7 (sI 0 6) 0)) h.1 fl_X8_158 (ids_s h7_0 6 (by decide)) (eS6 h7_0 _) rfl dX8_why_62 ?_
          refine G_iload_n (pc := 65) h.1 dX8_why_65 rfl 1 rfl ?_
          refine G_iload_n (pc := 66) h.1 dX8_why_66 rfl 2 rfl ?_
          refine G_iload_n (pc := 67) h.1 dX8_why_67 rfl 3 rfl ?_
          refine G_callV (pc := 68) (As := [.ref (y.2.1 (sI 0 0)), .int (M7 (sI 0 6) 0), .int p1, .int p2, .int p3]) (rest := []) h.1 h.2.2.1 lk_X8_137 lN132 (eM132 _) rfl rfl (c_X3_reasonAgainst x.1.2.1 y hy 0 h7_0 (M7 (sI 0 6) 0) p1 p2 p3 M7) rfl rfl (Nat.le_of_ble_eq_true rfl) ⟨rfl, rfl, Nat.le_of_ble_eq_true rfl, Nat.le_of_ble_eq_true rfl⟩ dX8_why_68 (fun r10 M9 => ?_)
          refine G_istore (pc := 71) h.1 h.2.1 [(5, .int r10), (0, .ref (y.2.1 141)), (1, .int p1), (2, .int p2), (3, .int p3), (4, .int p4)] dX8_why_71 (by decide) rfl ?_
          refine G_iload (pc := 73) h.1 dX8_why_73 5 rfl ?_
          refine G_ite (fun c11 => ?_) (fun c11 => ?_)
          · refine G_lkIn (z := 0) (off := 25) (tgt := 100) h.1 dX8_why_75 c11 (by decide) (by decide) (by decide) (by decide) ?_
            refine G_iload (pc := 100) h.1 dX8_why_100 0 rfl ?_
            exact G_ret (pc := 102) h rfl dX8_why_102
          refine G_ite (fun c12 => ?_) (fun c12 => ?_)
          · refine G_lkIn (z := 1) (off := 28) (tgt := 103) h.1 dX8_why_75 c12 (by decide) (by decide) (by decide) (by decide) ?_
            refine G_aload_n (pc := 103) h.1 dX8_why_103 rfl 1 rfl ?_
            refine G_get (pc := 104) (v := .ref (y.2.1 132)) h.1 fl_X8_50 lN141 (eM141 _) rfl dX8_why_104 ?_
            refine G_get (pc := 107) (v := .int (M9 132 2)) h.1 fl_X8_260 lN132 (eM132 _) rfl dX8_why_107 ?_
            exact G_ret (pc := 110) h rfl dX8_why_110
          refine G_lkOut (tgt := 111) h.1 dX8_why_75 (by decide) (by have z0 := g_ne c11 0 (by decide); have z1 := g_ne c12 1 (by decide); simp [Op.lookupswitch.offset, Ne.symm z0, Ne.symm z1]) (by decide) ?_
          refine G_aload_n (pc := 111) h.1 dX8_why_111 rfl 1 rfl ?_
          refine G_get (pc := 112) (v := .ref (y.2.1 132)) h.1 fl_X8_50 lN141 (eM141 _) rfl dX8_why_112 ?_
          refine G_get (pc := 115) (v := .int (M9 132 3)) h.1 fl_X8_263 lN132 (eM132 _) rfl dX8_why_115 ?_
          exact G_ret (pc := 118) h rfl dX8_why_118
        · refine G_bipush (pc := 44) (v := (-2)) h.1 dX8_why_44 (by decide) ?_
          exact G_ret (pc := 46) h rfl dX8_why_46
    · refine G_iconst (pc := 21) (v := (-1)) h.1 dX8_why_21 (by decide) ?_
      exact G_ret (pc := 22) h rfl dX8_why_22
