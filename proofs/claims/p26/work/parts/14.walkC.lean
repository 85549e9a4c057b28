theorem dX8_earliest_0 : decode cX8_earliest 0 = .ok (.iload_n 1, 1) := by decide +kernel
theorem dX8_earliest_1 : decode cX8_earliest 1 = .ok (.invokestatic 154, 3) := by decide +kernel
theorem dX8_earliest_4 : decode cX8_earliest 4 = .ok (.ifCond .eq 17, 3) := by decide +kernel
theorem dX8_earliest_7 : decode cX8_earliest 7 = .ok (.aload_n 0, 1) := by decide +kernel
theorem dX8_earliest_8 : decode cX8_earliest 8 = .ok (.getfield 12, 3) := by decide +kernel
theorem dX8_earliest_11 : decode cX8_earliest 11 = .ok (.getfield 62, 3) := by decide +kernel
theorem dX8_earliest_14 : decode cX8_earliest 14 = .ok (.iload_n 2, 1) := by decide +kernel
theorem dX8_earliest_15 : decode cX8_earliest 15 = .ok (.invokevirtual 157, 3) := by decide +kernel
theorem dX8_earliest_18 : decode cX8_earliest 18 = .ok (.ifCond .ne 5, 3) := by decide +kernel
theorem dX8_earliest_21 : decode cX8_earliest 21 = .ok (.iconst (-1), 1) := by decide +kernel
theorem dX8_earliest_22 : decode cX8_earliest 22 = .ok (.ireturn, 1) := by decide +kernel
theorem dX8_earliest_23 : decode cX8_earliest 23 = .ok (.aload_n 0, 1) := by decide +kernel
theorem dX8_earliest_24 : decode cX8_earliest 24 = .ok (.getfield 12, 3) := by decide +kernel
theorem dX8_earliest_27 : decode cX8_earliest 27 = .ok (.iload_n 3, 1) := by decide +kernel
theorem dX8_earliest_28 : decode cX8_earliest 28 = .ok (.invokevirtual 128, 3) := by decide +kernel
theorem dX8_earliest_31 : decode cX8_earliest 31 = .ok (.ifCond .ne 6, 3) := by decide +kernel
theorem dX8_earliest_34 : decode cX8_earliest 34 = .ok (.bipush (-2), 2) := by decide +kernel
theorem dX8_earliest_36 : decode cX8_earliest 36 = .ok (.ireturn, 1) := by decide +kernel
theorem dX8_earliest_37 : decode cX8_earliest 37 = .ok (.aload_n 0, 1) := by decide +kernel
theorem dX8_earliest_38 : decode cX8_earliest 38 = .ok (.getfield 50, 3) := by decide +kernel
theorem dX8_earliest_41 : decode cX8_earliest 41 = .ok (.aload_n 0, 1) := by decide +kernel
theorem dX8_earliest_42 : decode cX8_earliest 42 = .ok (.getfield 12, 3) := by decide +kernel
theorem dX8_earliest_45 : decode cX8_earliest 45 = .ok (.aload_n 0, 1) := by decide +kernel
theorem dX8_earliest_46 : decode cX8_earliest 46 = .ok (.getfield 12, 3) := by decide +kernel
theorem dX8_earliest_49 : decode cX8_earliest 49 = .ok (.getfield 106, 3) := by decide +kernel
theorem dX8_earliest_52 : decode cX8_earliest 52 = .ok (.getfield 158, 3) := by decide +kernel
theorem dX8_earliest_55 : decode cX8_earliest 55 = .ok (.iload_n 1, 1) := by decide +kernel
theorem dX8_earliest_56 : decode cX8_earliest 56 = .ok (.iload_n 2, 1) := by decide +kernel
theorem dX8_earliest_57 : decode cX8_earliest 57 = .ok (.iload_n 3, 1) := by decide +kernel
theorem dX8_earliest_58 : decode cX8_earliest 58 = .ok (.iload_n 3, 1) := by decide +kernel
theorem dX8_earliest_59 : decode cX8_earliest 59 = .ok (.bipush 60, 2) := by decide +kernel
theorem dX8_earliest_61 : decode cX8_earliest 61 = .ok (.iadd, 1) := by decide +kernel
theorem dX8_earliest_62 : decode cX8_earliest 62 = .ok (.invokevirtual 159, 3) := by decide +kernel
theorem dX8_earliest_65 : decode cX8_earliest 65 = .ok (.ireturn, 1) := by decide +kernel
abbrev rX8_earliest : Room := { frames := 5, cells := 0, slots := 0, locals := 126 }
set_option maxRecDepth 20000 in
theorem c_X8_earliest (l : Launch) (y : Cy) (hy : Inj y) (p1 : Int32) (p2 : Int32) (p3 : Int32) (M : Mem) : CT l y yX8_earliest cX8_earliest 4 (some .int) rX8_earliest [.ref (y.2.1 141), .int p1, .int p2, .int p3] M (d_X8_earliest p1 p2 p3 M) := by
  refine CT_of (by decide) hy (Nat.le_of_ble_eq_true rfl) (fun x hxl h => ?_)
  show G x y 0 [(0, .ref (y.2.1 141)), (1, .int p1), (2, .int p2), (3, .int p3)] [] M _
  unfold d_X8_earliest
  refine G_iload_n (pc := 0) h.1 dX8_earliest_0 rfl 1 rfl ?_
  refine G_callS (pc := 1) (As := [.int p1]) (rest := []) h.1 h.2.2.1 lk_X8_154 (c_X8_isRobot x.1.2.1 y hy p1 M) rfl rfl (Nat.le_of_ble_eq_true rfl) ⟨rfl, rfl, Nat.le_of_ble_eq_true rfl, Nat.le_of_ble_eq_true rfl⟩ dX8_earliest_1 (fun r2 M1 => ?_)
  refine G_if_eq (pc := 4) (tgt := 21) h.1 dX8_earliest_4 (by decide) ?_ ?_
  · refine G_iconst (pc := 21) (v := (-1)) h.1 dX8_earliest_21 (by decide) ?_
    exact G_ret (pc := 22) h rfl dX8_earliest_22
  · refine G_aload_n (pc := 7) h.1 dX8_earliest_7 rfl 0 rfl ?_
    refine G_get (pc := 8) (v := .ref (y.2.1 (sI 0 0))) h.1 fl_X8_12 lN141 (eM141 _) rfl dX8_earliest_8 ?_
    refine G_get (pc := 11) (v := .ref (y.2.1 (sI 0 1))) h.1 fl_X8_62 (ids_s h7_0 0 (by decide)) (eS0 h7_0 _) rfl dX8_earliest_11 ?_
    refine G_iload_n (pc := 14) h.1 dX8_earliest_14 rfl 2 rfl ?_
    refine G_callV (pc := 15) (As := [.int p2]) (rest := []) h.1 h.2.2.1 lk_X8_157 (ids_s h7_0 1 (by decide)) (eS1 h7_0 _) rfl rfl (c_X4_has x.1.2.1 y hy 0 h7_0 p2 M1) rfl rfl (Nat.le_of_ble_eq_true rfl) ⟨rfl, rfl, Nat.le_of_ble_eq_true rfl, Nat.le_of_ble_eq_true rfl⟩ dX8_earliest_15 (fun r4 M3 => ?_)
    refine G_if_ne (pc := 18) (tgt := 23) h.1 dX8_earliest_18 (by decide) ?_ ?_
    · refine G_aload_n (pc := 23) h.1 dX8_earliest_23 rfl 0 rfl ?_
      refine G_get (pc := 24) (v := .ref (y.2.1 (sI 0 0))) h.1 fl_X8_12 lN141 (eM141 _) rfl dX8_earliest_24 ?_
      refine G_iload_n (pc := 27) h.1 dX8_earliest_27 rfl 3 rfl ?_
      refine G_callV (pc := 28) (As := [.int p3]) (rest := []) h.1 h.2.2.1 lk_X8_128 (ids_s h7_0 0 (by decide)) (eS0 h7_0 _) rfl rfl (c_X5_canStart x.1.2.1 y hy 0 h7_0 p3 M3) rfl rfl (Nat.le_of_ble_eq_true rfl) ⟨rfl, rfl, Nat.le_of_ble_eq_true rfl, Nat.le_of_ble_eq_true rfl⟩ dX8_earliest_28 (fun r6 M5 => ?_)
      refine G_if_ne (pc := 31) (tgt := 37) h.1 dX8_earliest_31 (by decide) ?_ ?_
      · refine G_aload_n (pc := 37) h.1 dX8_earliest_37 rfl 0 rfl ?_
        refine G_get (pc := 38) (v := .ref (y.2.1 132)) h.1 fl_X8_50 lN141 (eM141 _) rfl dX8_earliest_38 ?_
        refine G_aload_n (pc := 41) h.1 dX8_earliest_41 rfl 0 rfl ?_
        refine G_get (pc := 42) (v := .ref (y.2.1 (sI 0 0))) h.1 fl_X8_12 lN141 (eM141 _) rfl dX8_earliest_42 ?_
        refine G_aload_n (pc := 45) h.1 dX8_earliest_45 rfl 0 rfl ?_
        refine G_get (pc := 46) (v := .ref (y.2.1 (sI 0 0))) h.1 fl_X8_12 lN141 (eM141 _) rfl dX8_earliest_46 ?_
        refine G_get (pc := 49) (v := .ref (y.2.1 (sI 0 6))) h.1 fl_X8_106 (ids_s h7_0 0 (by decide)) (eS0 h7_0 _) rfl dX8_earliest_49 ?_
        refine G_get (pc := 52) (v := .int (M5 (sI 0 6) 0)) h.1 fl_X8_158 (ids_s h7_0 6 (by decide)) (eS6 h7_0 _) rfl dX8_earliest_52 ?_
        refine G_iload_n (pc := 55) h.1 dX8_earliest_55 rfl 1 rfl ?_
        refine G_iload_n (pc := 56) h.1 dX8_earliest_56 rfl 2 rfl ?_
        refine G_iload_n (pc := 57) h.1 dX8_earliest_57 rfl 3 rfl ?_
        refine G_iload_n (pc := 58) h.1 dX8_earliest_58 rfl 3 rfl ?_
        refine G_bipush (pc := 59) (v := (60)) h.1 dX8_earliest_59 (by decide) ?_
        refine G_iadd (pc := 61) h.1 dX8_earliest_61 ?_
        refine G_callV (pc := 62) (As := [.ref (y.2.1 (sI 0 0)), .int (M5 (sI 0 6) 0), .int p1, .int p2, .int p3, .int (p3 + (60 : Int32))]) (rest := []) h.1 h.2.2.1 lk_X8_159 lN132 (eM132 _) rfl rfl (c_X3_firstFit x.1.2.1 y hy 0 h7_0 (M5 (sI 0 6) 0) p1 p2 p3 (p3 + (60 : Int32)) M5) rfl rfl (Nat.le_of_ble_eq_true rfl) ⟨rfl, rfl, Nat.le_of_ble_eq_true rfl, Nat.le_of_ble_eq_true rfl⟩ dX8_earliest_62 (fun r8 M7 => ?_)
        exact G_ret (pc := 65) h rfl dX8_earliest_65
      · refine G_bipush (pc := 34) (v := (-2)) h.1 dX8_earliest_34 (by decide) ?_
        exact G_ret (pc := 36) h rfl dX8_earliest_36
    · refine G_iconst (pc := 21) (v := (-1)) h.1 dX8_earliest_21 (by decide) ?_
      exact G_ret (pc := 22) h rfl dX8_earliest_22
theorem dX8_count_0 : decode cX8_count 0 = .ok (.iload_n 1, 1) := by decide +kernel
theorem dX8_count_1 : decode cX8_count 1 = .ok (.bipush 6, 2) := by decide +kernel
theorem dX8_count_3 : decode cX8_count 3 = .ok (.bipush 10, 2) := by decide +kernel
theorem dX8_count_5 : decode cX8_count 5 = .ok (.invokestatic 58, 3) := by decide +kernel
theorem dX8_count_8 : decode cX8_count 8 = .ok (.ifCond .eq 18, 3) := by decide +kernel
theorem dX8_count_11 : decode cX8_count 11 = .ok (.aload_n 0, 1) := by decide +kernel
theorem dX8_count_12 : decode cX8_count 12 = .ok (.getfield 12, 3) := by decide +kernel
theorem dX8_count_15 : decode cX8_count 15 = .ok (.getfield 106, 3) := by decide +kernel
theorem dX8_count_18 : decode cX8_count 18 = .ok (.iload_n 1, 1) := by decide +kernel
theorem dX8_count_19 : decode cX8_count 19 = .ok (.bipush 6, 2) := by decide +kernel
theorem dX8_count_21 : decode cX8_count 21 = .ok (.isub, 1) := by decide +kernel
theorem dX8_count_22 : decode cX8_count 22 = .ok (.invokevirtual 266, 3) := by decide +kernel
theorem dX8_count_25 : decode cX8_count 25 = .ok (.ireturn, 1) := by decide +kernel
theorem dX8_count_26 : decode cX8_count 26 = .ok (.iload_n 1, 1) := by decide +kernel
theorem dX8_count_27 : decode cX8_count 27 = .ok (.tableswitch 195 0 17 #[85, 93, 101, 109, 117, 128, 195, 195, 195, 195, 195, 139, 144, 155, 163, 171, 179, 187], 85) := by decide +kernel
theorem dX8_count_112 : decode cX8_count 112 = .ok (.aload_n 0, 1) := by decide +kernel
theorem dX8_count_113 : decode cX8_count 113 = .ok (.getfield 12, 3) := by decide +kernel
theorem dX8_count_116 : decode cX8_count 116 = .ok (.getfield 180, 3) := by decide +kernel
theorem dX8_count_119 : decode cX8_count 119 = .ok (.ireturn, 1) := by decide +kernel
theorem dX8_count_120 : decode cX8_count 120 = .ok (.aload_n 0, 1) := by decide +kernel
theorem dX8_count_121 : decode cX8_count 121 = .ok (.getfield 12, 3) := by decide +kernel
theorem dX8_count_124 : decode cX8_count 124 = .ok (.getfield 90, 3) := by decide +kernel
theorem dX8_count_127 : decode cX8_count 127 = .ok (.ireturn, 1) := by decide +kernel
theorem dX8_count_128 : decode cX8_count 128 = .ok (.aload_n 0, 1) := by decide +kernel
theorem dX8_count_129 : decode cX8_count 129 = .ok (.getfield 12, 3) := by decide +kernel
theorem dX8_count_132 : decode cX8_count 132 = .ok (.getfield 87, 3) := by decide +kernel
theorem dX8_count_135 : decode cX8_count 135 = .ok (.ireturn, 1) := by decide +kernel
theorem dX8_count_136 : decode cX8_count 136 = .ok (.aload_n 0, 1) := by decide +kernel
theorem dX8_count_137 : decode cX8_count 137 = .ok (.getfield 12, 3) := by decide +kernel
theorem dX8_count_140 : decode cX8_count 140 = .ok (.getfield 80, 3) := by decide +kernel
theorem dX8_count_143 : decode cX8_count 143 = .ok (.ireturn, 1) := by decide +kernel
theorem dX8_count_144 : decode cX8_count 144 = .ok (.aload_n 0, 1) := by decide +kernel
theorem dX8_count_145 : decode cX8_count 145 = .ok (.getfield 12, 3) := by decide +kernel
theorem dX8_count_148 : decode cX8_count 148 = .ok (.getfield 62, 3) := by decide +kernel
theorem dX8_count_151 : decode cX8_count 151 = .ok (.getfield 66, 3) := by decide +kernel
theorem dX8_count_154 : decode cX8_count 154 = .ok (.ireturn, 1) := by decide +kernel
theorem dX8_count_155 : decode cX8_count 155 = .ok (.aload_n 0, 1) := by decide +kernel
theorem dX8_count_156 : decode cX8_count 156 = .ok (.getfield 12, 3) := by decide +kernel
theorem dX8_count_159 : decode cX8_count 159 = .ok (.getfield 106, 3) := by decide +kernel
theorem dX8_count_162 : decode cX8_count 162 = .ok (.getfield 158, 3) := by decide +kernel
theorem dX8_count_165 : decode cX8_count 165 = .ok (.ireturn, 1) := by decide +kernel
theorem dX8_count_166 : decode cX8_count 166 = .ok (.aload_n 0, 1) := by decide +kernel
theorem dX8_count_167 : decode cX8_count 167 = .ok (.invokevirtual 83, 3) := by decide +kernel
theorem dX8_count_170 : decode cX8_count 170 = .ok (.ireturn, 1) := by decide +kernel
theorem dX8_count_171 : decode cX8_count 171 = .ok (.aload_n 0, 1) := by decide +kernel
theorem dX8_count_172 : decode cX8_count 172 = .ok (.getfield 12, 3) := by decide +kernel
theorem dX8_count_175 : decode cX8_count 175 = .ok (.getfield 166, 3) := by decide +kernel
theorem dX8_count_178 : decode cX8_count 178 = .ok (.getfield 170, 3) := by decide +kernel
theorem dX8_count_181 : decode cX8_count 181 = .ok (.ireturn, 1) := by decide +kernel
theorem dX8_count_182 : decode cX8_count 182 = .ok (.aload_n 0, 1) := by decide +kernel
theorem dX8_count_183 : decode cX8_count 183 = .ok (.getfield 12, 3) := by decide +kernel
theorem dX8_count_186 : decode cX8_count 186 = .ok (.getfield 163, 3) := by decide +kernel
theorem dX8_count_189 : decode cX8_count 189 = .ok (.ireturn, 1) := by decide +kernel
theorem dX8_count_190 : decode cX8_count 190 = .ok (.aload_n 0, 1) := by decide +kernel
theorem dX8_count_191 : decode cX8_count 191 = .ok (.getfield 12, 3) := by decide +kernel
theorem dX8_count_194 : decode cX8_count 194 = .ok (.getfield 269, 3) := by decide +kernel
theorem dX8_count_197 : decode cX8_count 197 = .ok (.ireturn, 1) := by decide +kernel
theorem dX8_count_198 : decode cX8_count 198 = .ok (.aload_n 0, 1) := by decide +kernel
theorem dX8_count_199 : decode cX8_count 199 = .ok (.getfield 12, 3) := by decide +kernel
theorem dX8_count_202 : decode cX8_count 202 = .ok (.getfield 272, 3) := by decide +kernel
theorem dX8_count_205 : decode cX8_count 205 = .ok (.ireturn, 1) := by decide +kernel
theorem dX8_count_206 : decode cX8_count 206 = .ok (.aload_n 0, 1) := by decide +kernel
theorem dX8_count_207 : decode cX8_count 207 = .ok (.getfield 29, 3) := by decide +kernel
theorem dX8_count_210 : decode cX8_count 210 = .ok (.getfield 211, 3) := by decide +kernel
theorem dX8_count_213 : decode cX8_count 213 = .ok (.ireturn, 1) := by decide +kernel
theorem dX8_count_214 : decode cX8_count 214 = .ok (.aload_n 0, 1) := by decide +kernel
theorem dX8_count_215 : decode cX8_count 215 = .ok (.getfield 36, 3) := by decide +kernel
theorem dX8_count_218 : decode cX8_count 218 = .ok (.getfield 193, 3) := by decide +kernel
theorem dX8_count_221 : decode cX8_count 221 = .ok (.ireturn, 1) := by decide +kernel
theorem dX8_count_222 : decode cX8_count 222 = .ok (.bipush (-2), 2) := by decide +kernel
theorem dX8_count_224 : decode cX8_count 224 = .ok (.ireturn, 1) := by decide +kernel
abbrev rX8_count : Room := { frames := 6, cells := 0, slots := 0, locals := 132 }
set_option maxRecDepth 20000 in
theorem c_X8_count (l : Launch) (y : Cy) (hy : Inj y) (p1 : Int32) (M : Mem) : CT l y yX8_count cX8_count 2 (some .int) rX8_count [.ref (y.2.1 141), .int p1] M (d_X8_count p1 M) := by
  refine CT_of (by decide) hy (Nat.le_of_ble_eq_true rfl) (fun x hxl h => ?_)
  show G x y 0 [(0, .ref (y.2.1 141)), (1, .int p1)] [] M _
  unfold d_X8_count
  refine G_iload_n (pc := 0) h.1 dX8_count_0 rfl 1 rfl ?_
  refine G_bipush (pc := 1) (v := (6)) h.1 dX8_count_1 (by decide) ?_
  refine G_bipush (pc := 3) (v := (10)) h.1 dX8_count_3 (by decide) ?_
  refine G_callS (pc := 5) (As := [.int p1, .int (6 : Int32), .int (10 : Int32)]) (rest := []) h.1 h.2.2.1 lk_X8_58 (c_X8_within x.1.2.1 y hy p1 (6 : Int32) (10 : Int32) M) rfl rfl (Nat.le_of_ble_eq_true rfl) ⟨rfl, rfl, Nat.le_of_ble_eq_true rfl, Nat.le_of_ble_eq_true rfl⟩ dX8_count_5 (fun r2 M1 => ?_)
  refine G_if_eq (pc := 8) (tgt := 26) h.1 dX8_count_8 (by decide) ?_ ?_
  · refine G_iload_n (pc := 26) h.1 dX8_count_26 rfl 1 rfl ?_
    refine G_ite (fun c3 => ?_) (fun c3 => ?_)
    · refine G_tabIn (z := 0) (off := 85) (tgt := 112) h.1 dX8_count_27 c3 (by decide) (by decide) (by decide) rfl (by decide) ?_
      refine G_aload_n (pc := 112) h.1 dX8_count_112 rfl 0 rfl ?_
      refine G_get (pc := 113) (v := .ref (y.2.1 (sI 0 0))) h.1 fl_X8_12 lN141 (eM141 _) rfl dX8_count_113 ?_
      refine G_get (pc := 116) (v := .int (M1 (sI 0 0) 0)) h.1 fl_X8_180 (ids_s h7_0 0 (by decide)) (eS0 h7_0 _) rfl dX8_count_116 ?_
      exact G_ret (pc := 119) h rfl dX8_count_119
    refine G_ite (fun c4 => ?_) (fun c4 => ?_)
    · refine G_tabIn (z := 1) (off := 93) (tgt := 120) h.1 dX8_count_27 c4 (by decide) (by decide) (by decide) rfl (by decide) ?_
      refine G_aload_n (pc := 120) h.1 dX8_count_120 rfl 0 rfl ?_
      refine G_get (pc := 121) (v := .ref (y.2.1 (sI 0 0))) h.1 fl_X8_12 lN141 (eM141 _) rfl dX8_count_121 ?_
      refine G_get (pc := 124) (v := .int (M1 (sI 0 0) 1)) h.1 fl_X8_90 (ids_s h7_0 0 (by decide)) (eS0 h7_0 _) rfl dX8_count_124 ?_
      exact G_ret (pc := 127) h rfl dX8_count_127
    refine G_ite (fun c5 => ?_) (fun c5 => ?_)
    · refine G_tabIn (z := 2) (off := 101) (tgt := 128) h.1 dX8_count_27 c5 (by decide) (by decide) (by decide) rfl (by decide) ?_
      refine G_aload_n (pc := 128) h.1 dX8_count_128 rfl 0 rfl ?_
      refine G_get (pc := 129) (v := .ref (y.2.1 (sI 0 0))) h.1 fl_X8_12 lN141 (eM141 _) rfl dX8_count_129 ?_
      refine G_get (pc := 132) (v := .int (M1 (sI 0 0) 2)) h.1 fl_X8_87 (ids_s h7_0 0 (by decide)) (eS0 h7_0 _) rfl dX8_count_132 ?_
      exact G_ret (pc := 135) h rfl dX8_count_135
    refine G_ite (fun c6 => ?_) (fun c6 => ?_)
    · refine G_tabIn (z := 3) (off := 109) (tgt := 136) h.1 dX8_count_27 c6 (by decide) (by decide) (by decide) rfl (by decide) ?_
      refine G_aload_n (pc := 136) h.1 dX8_count_136 rfl 0 rfl ?_
      refine G_get (pc := 137) (v := .ref (y.2.1 (sI 0 0))) h.1 fl_X8_12 lN141 (eM141 _) rfl dX8_count_137 ?_
      refine G_get (pc := 140) (v := .int (M1 (sI 0 0) 3)) h.1 fl_X8_80 (ids_s h7_0 0 (by decide)) (eS0 h7_0 _) rfl dX8_count_140 ?_
      exact G_ret (pc := 143) h rfl dX8_count_143
    refine G_ite (fun c7 => ?_) (fun c7 => ?_)
    · refine G_tabIn (z := 4) (off := 117) (tgt := 144) h.1 dX8_count_27 c7 (by decide) (by decide) (by decide) rfl (by decide) ?_
      refine G_aload_n (pc := 144) h.1 dX8_count_144 rfl 0 rfl ?_
      refine G_get (pc := 145) (v := .ref (y.2.1 (sI 0 0))) h.1 fl_X8_12 lN141 (eM141 _) rfl dX8_count_145 ?_
      refine G_get (pc := 148) (v := .ref (y.2.1 (sI 0 1))) h.1 fl_X8_62 (ids_s h7_0 0 (by decide)) (eS0 h7_0 _) rfl dX8_count_148 ?_
      refine G_get (pc := 151) (v := .int (M1 (sI 0 1) 0)) h.1 fl_X8_66 (ids_s h7_0 1 (by decide)) (eS1 h7_0 _) rfl dX8_count_151 ?_
      exact G_ret (pc := 154) h rfl dX8_count_154
    refine G_ite (fun c8 => ?_) (fun c8 => ?_)
    · refine G_tabIn (z := 5) (off := 128) (tgt := 155) h.1 dX8_count_27 c8 (by decide) (by decide) (by decide) rfl (by decide) ?_
      refine G_aload_n (pc := 155) h.1 dX8_count_155 rfl 0 rfl ?_
      refine G_get (pc := 156) (v := .ref (y.2.1 (sI 0 0))) h.1 fl_X8_12 lN141 (eM141 _) rfl dX8_count_156 ?_
      refine G_get (pc := 159) (v := .ref (y.2.1 (sI 0 6))) h.1 fl_X8_106 (ids_s h7_0 0 (by decide)) (eS0 h7_0 _) rfl dX8_count_159 ?_
      refine G_get (pc := 162) (v := .int (M1 (sI 0 6) 0)) h.1 fl_X8_158 (ids_s h7_0 6 (by decide)) (eS6 h7_0 _) rfl dX8_count_162 ?_
      exact G_ret (pc := 165) h rfl dX8_count_165
    refine G_ite (fun c9 => ?_) (fun c9 => ?_)
    · refine G_tabIn (z := 6) (off := 195) (tgt := 222) h.1 dX8_count_27 c9 (by decide) (by decide) (by decide) rfl (by decide) ?_
      refine G_bipush (pc := 222) (v := (-2)) h.1 dX8_count_222 (by decide) ?_
      exact G_ret (pc := 224) h rfl dX8_count_224
    refine G_ite (fun c10 => ?_) (fun c10 => ?_)
    · refine G_tabIn (z := 7) (off := 195) (tgt := 222) h.1 dX8_count_27 c10 (by decide) (by decide) (by decide) rfl (by decide) ?_
      refine G_bipush (pc := 222) (v := (-2)) h.1 dX8_count_222 (by decide) ?_
      exact G_ret (pc := 224) h rfl dX8_count_224
    refine G_ite (fun c11 => ?_) (fun c11 => ?_)
    · refine G_tabIn (z := 8) (off := 195) (tgt := 222) h.1 dX8_count_27 c11 (by decide) (by decide) (by decide) rfl (by decide) ?_
      refine G_bipush (pc := 222) (v := (-2)) h.1 dX8_count_222 (by decide) ?_
      exact G_ret (pc := 224) h rfl dX8_count_224
    refine G_ite (fun c12 => ?_) (fun c12 => ?_)
    · refine G_tabIn (z := 9) (off := 195) (tgt := 222) h.1 dX8_count_27 c12 (by decide) (by decide) (by decide) rfl (by decide) ?_
      refine G_bipush (pc := 222) (v := (-2)) h.1 dX8_count_222 (by decide) ?_
      exact G_ret (pc := 224) h rfl dX8_count_224
    refine G_ite (fun c13 => ?_) (fun c13 => ?_)
    · refine G_tabIn (z := 10) (off := 195) (tgt := 222) h.1 dX8_count_27 c13 (by decide) (by decide) (by decide) rfl (by decide) ?_
      refine G_bipush (pc := 222) (v := (-2)) h.1 dX8_count_222 (by decide) ?_
      exact G_ret (pc := 224) h rfl dX8_count_224
    refine G_ite (fun c16 => ?_) (fun c16 => ?_)
    · refine G_tabIn (z := 11) (off := 139) (tgt := 166) h.1 dX8_count_27 c16 (by decide) (by decide) (by decide) rfl (by decide) ?_
      refine G_aload_n (pc := 166) h.1 dX8_count_166 rfl 0 rfl ?_
      refine G_callV (pc := 167) (As := []) (rest := []) h.1 h.2.2.1 lk_X8_83 lN141 (eM141 _) rfl rfl (c_X8_countDoomed x.1.2.1 y hy M1) rfl rfl (Nat.le_of_ble_eq_true rfl) ⟨rfl, rfl, Nat.le_of_ble_eq_true rfl, Nat.le_of_ble_eq_true rfl⟩ dX8_count_167 (fun r15 M14 => ?_)
      exact G_ret (pc := 170) h rfl dX8_count_170
    refine G_ite (fun c17 => ?_) (fun c17 => ?_)
    · refine G_tabIn (z := 12) (off := 144) (tgt := 171) h.1 dX8_count_27 c17 (by decide) (by decide) (by decide) rfl (by decide) ?_
      refine G_aload_n (pc := 171) h.1 dX8_count_171 rfl 0 rfl ?_
      refine G_get (pc := 172) (v := .ref (y.2.1 (sI 0 0))) h.1 fl_X8_12 lN141 (eM141 _) rfl dX8_count_172 ?_
      refine G_get (pc := 175) (v := .ref (y.2.1 (sI 0 12))) h.1 fl_X8_166 (ids_s h7_0 0 (by decide)) (eS0 h7_0 _) rfl dX8_count_175 ?_
      refine G_get (pc := 178) (v := .int (M1 (sI 0 12) 0)) h.1 fl_X8_170 (ids_s h7_0 12 (by decide)) (eS12 h7_0 _) rfl dX8_count_178 ?_
      exact G_ret (pc := 181) h rfl dX8_count_181
    refine G_ite (fun c18 => ?_) (fun c18 => ?_)
    · refine G_tabIn (z := 13) (off := 155) (tgt := 182) h.1 dX8_count_27 c18 (by decide) (by decide) (by decide) rfl (by decide) ?_
      refine G_aload_n (pc := 182) h.1 dX8_count_182 rfl 0 rfl ?_
      refine G_get (pc := 183) (v := .ref (y.2.1 (sI 0 0))) h.1 fl_X8_12 lN141 (eM141 _) rfl dX8_count_183 ?_
      refine G_get (pc := 186) (v := .int (M1 (sI 0 0) 4)) h.1 fl_X8_163 (ids_s h7_0 0 (by decide)) (eS0 h7_0 _) rfl dX8_count_186 ?_
      exact G_ret (pc := 189) h rfl dX8_count_189
    refine G_ite (fun c19 => ?_) (fun c19 => ?_)
    · refine G_tabIn (z := 14) (off := 163) (tgt := 190) h.1 dX8_count_27 c19 (by decide) (by decide) (by decide) rfl (by decide) ?_
      refine G_aload_n (pc := 190) h.1 dX8_count_190 rfl 0 rfl ?_
      refine G_get (pc := 191) (v := .ref (y.2.1 (sI 0 0))) h.1 fl_X8_12 lN141 (eM141 _) rfl dX8_count_191 ?_
      refine G_get (pc := 194) (v := .int (M1 (sI 0 0) 5)) h.1 fl_X8_269 (ids_s h7_0 0 (by decide)) (eS0 h7_0 _) rfl dX8_count_194 ?_
      exact G_ret (pc := 197) h rfl dX8_count_197
    refine G_ite (fun c20 => ?_) (fun c20 => ?_)
    · refine G_tabIn (z := 15) (off := 171) (tgt := 198) h.1 dX8_count_27 c20 (by decide) (by decide) (by decide) rfl (by decide) ?_
      refine G_aload_n (pc := 198) h.1 dX8_count_198 rfl 0 rfl ?_
      refine G_get (pc := 199) (v := .ref (y.2.1 (sI 0 0))) h.1 fl_X8_12 lN141 (eM141 _) rfl dX8_count_199 ?_
      refine G_get (pc := 202) (v := .int (M1 (sI 0 0) 6)) h.1 fl_X8_272 (ids_s h7_0 0 (by decide)) (eS0 h7_0 _) rfl dX8_count_202 ?_
      exact G_ret (pc := 205) h rfl dX8_count_205
    refine G_ite (fun c21 => ?_) (fun c21 => ?_)
    · refine G_tabIn (z := 16) (off := 179) (tgt := 206) h.1 dX8_count_27 c21 (by decide) (by decide) (by decide) rfl (by decide) ?_
      refine G_aload_n (pc := 206) h.1 dX8_count_206 rfl 0 rfl ?_
      refine G_get (pc := 207) (v := .ref (y.2.1 134)) h.1 fl_X8_29 lN141 (eM141 _) rfl dX8_count_207 ?_
      refine G_get (pc := 210) (v := .int (M1 134 1)) h.1 fl_X8_211 lN134 (eM134 _) rfl dX8_count_210 ?_
      exact G_ret (pc := 213) h rfl dX8_count_213
    refine G_ite (fun c22 => ?_) (fun c22 => ?_)
    · refine G_tabIn (z := 17) (off := 187) (tgt := 214) h.1 dX8_count_27 c22 (by decide) (by decide) (by decide) rfl (by decide) ?_
      refine G_aload_n (pc := 214) h.1 dX8_count_214 rfl 0 rfl ?_
      refine G_get (pc := 215) (v := .ref (y.2.1 136)) h.1 fl_X8_36 lN141 (eM141 _) rfl dX8_count_215 ?_
      refine G_get (pc := 218) (v := .int (M1 136 1)) h.1 fl_X8_193 lN136 (eM136 _) rfl dX8_count_218 ?_
      exact G_ret (pc := 221) h rfl dX8_count_221
    refine G_tabOut (tgt := 222) h.1 dX8_count_27 (by have hz := And.intro trivial trivial; have z0 := g_ne c3 0 (by decide); have z1 := g_ne c4 1 (by decide); have z2 := g_ne c5 2 (by decide); have z3 := g_ne c6 3 (by decide); have z4 := g_ne c7 4 (by decide); have z5 := g_ne c8 5 (by decide); have z6 := g_ne c9 6 (by decide); have z7 := g_ne c10 7 (by decide); have z8 := g_ne c11 8 (by decide); have z9 := g_ne c12 9 (by decide); have z10 := g_ne c13 10 (by decide); have z11 := g_ne c16 11 (by decide); have z12 := g_ne c17 12 (by decide); have z13 := g_ne c18 13 (by decide); have z14 := g_ne c19 14 (by decide); have z15 := g_ne c20 15 (by decide); have z16 := g_ne c21 16 (by decide); have z17 := g_ne c22 17 (by decide); omega) (by decide) ?_
    refine G_bipush (pc := 222) (v := (-2)) h.1 dX8_count_222 (by decide) ?_
    exact G_ret (pc := 224) h rfl dX8_count_224
  · refine G_aload_n (pc := 11) h.1 dX8_count_11 rfl 0 rfl ?_
    refine G_get (pc := 12) (v := .ref (y.2.1 (sI 0 0))) h.1 fl_X8_12 lN141 (eM141 _) rfl dX8_count_12 ?_
    refine G_get (pc := 15) (v := .ref (y.2.1 (sI 0 6))) h.1 fl_X8_106 (ids_s h7_0 0 (by decide)) (eS0 h7_0 _) rfl dX8_count_15 ?_
    refine G_iload_n (pc := 18) h.1 dX8_count_18 rfl 1 rfl ?_
    refine G_bipush (pc := 19) (v := (6)) h.1 dX8_count_19 (by decide) ?_
    refine G_isub (pc := 21) h.1 dX8_count_21 ?_
    refine G_callV (pc := 22) (As := [.int (p1 - (6 : Int32))]) (rest := []) h.1 h.2.2.1 lk_X8_266 (ids_s h7_0 6 (by decide)) (eS6 h7_0 _) rfl rfl (c_X0_inState x.1.2.1 y hy 0 h7_0 (p1 - (6 : Int32)) M1) rfl rfl (Nat.le_of_ble_eq_true rfl) ⟨rfl, rfl, Nat.le_of_ble_eq_true rfl, Nat.le_of_ble_eq_true rfl⟩ dX8_count_22 (fun r24 M23 => ?_)
    exact G_ret (pc := 25) h rfl dX8_count_25
