def fuelN : Nat := 4000
theorem G_ite {x : Cx} {y : Cy} {pc : Nat} {lv : List (Nat × Value)} {st : List Value} {M : Mem} {a b : Int32} {o1 o2 : Ans} (k1 : a = b → G x y pc lv st M o1) (k2 : ¬ a = b → G x y pc lv st M o2) : G x y pc lv st M (if a = b then o1 else o2) := by
  by_cases c : a = b
  · rw [if_pos c]; exact k1 c
  · rw [if_neg c]; exact k2 c
theorem g_ne {a b : Int32} (h : ¬ a = b) (z : Int) (hz : b.toInt = z) : ¬ a.toInt = z := fun e => h (Int32.toInt_inj.mp (e.trans hz.symm))
theorem G_tabIn {x : Cx} {y : Cy} {cc : ByteArray} {own : String} (h : Ok x y cc own) {pc : Nat} {lv : List (Nat × Value)} {st : List Value} {M : Mem} {o : Ans} {a b : Int32} {z dflt lo hi : Int} {offs : Array Int} {len tgt : Nat} {off : Int} (hd : decode cc pc = .ok (.tableswitch dflt lo hi offs, len)) (hc : a = b) (hz : b.toInt = z) (h1 : ¬ z < lo) (h2 : ¬ hi < z) (ho : offs[(z - lo).toNat]? = some off) (ht : (pc : Int) + off = (tgt : Int)) (kk : G x y tgt lv st M o) : G x y pc lv (.int a :: st) M o := by
  intro r M' hq H locs ls hP hS hl
  subst hc
  subst hz
  exact lv_tableIn h.1 h.2.1 hd h1 h2 ho ht (kk r M' hq H locs ls hP hS hl)
theorem G_tabOut {x : Cx} {y : Cy} {cc : ByteArray} {own : String} (h : Ok x y cc own) {pc : Nat} {lv : List (Nat × Value)} {st : List Value} {M : Mem} {o : Ans} {a : Int32} {dflt lo hi : Int} {offs : Array Int} {len tgt : Nat} (hd : decode cc pc = .ok (.tableswitch dflt lo hi offs, len)) (hc : a.toInt < lo ∨ hi < a.toInt) (ht : (pc : Int) + dflt = (tgt : Int)) (kk : G x y tgt lv st M o) : G x y pc lv (.int a :: st) M o := by
  intro r M' hq H locs ls hP hS hl
  exact lv_tableOut h.1 h.2.1 hd hc ht (kk r M' hq H locs ls hP hS hl)
theorem G_lkIn {x : Cx} {y : Cy} {cc : ByteArray} {own : String} (h : Ok x y cc own) {pc : Nat} {lv : List (Nat × Value)} {st : List Value} {M : Mem} {o : Ans} {a b : Int32} {z dflt : Int} {ps : Array (Int × Int)} {len tgt : Nat} {off : Int} (hd : decode cc pc = .ok (.lookupswitch dflt ps, len)) (hc : a = b) (hz : b.toInt = z) (hp : (ps.toList.zip (ps.toList.drop 1)).all (fun (a, next) => a.1 < next.1) = true) (ho : Op.lookupswitch.offset ps.toList dflt z = off) (ht : (pc : Int) + off = (tgt : Int)) (kk : G x y tgt lv st M o) : G x y pc lv (.int a :: st) M o := by
  intro r M' hq H locs ls hP hS hl
  subst hc
  subst hz
  exact lv_lookup h.1 h.2.1 hd hp ho ht (kk r M' hq H locs ls hP hS hl)
theorem G_lkOut {x : Cx} {y : Cy} {cc : ByteArray} {own : String} (h : Ok x y cc own) {pc : Nat} {lv : List (Nat × Value)} {st : List Value} {M : Mem} {o : Ans} {a : Int32} {dflt : Int} {ps : Array (Int × Int)} {len tgt : Nat} (hd : decode cc pc = .ok (.lookupswitch dflt ps, len)) (hp : (ps.toList.zip (ps.toList.drop 1)).all (fun (a, next) => a.1 < next.1) = true) (ho : Op.lookupswitch.offset ps.toList dflt a.toInt = dflt) (ht : (pc : Int) + dflt = (tgt : Int)) (kk : G x y tgt lv st M o) : G x y pc lv (.int a :: st) M o := by
  intro r M' hq H locs ls hP hS hl
  exact lv_lookup h.1 h.2.1 hd hp ho ht (kk r M' hq H locs ls hP hS hl)
theorem h7_0 : 0 < 7 := by decide
theorem h7_1 : 1 < 7 := by decide
theorem h7_2 : 2 < 7 := by decide
theorem h2_0 : 0 < 2 := by decide
theorem h2_1 : 1 < 2 := by decide
theorem lN132 : 132 < NWc := by decide
theorem lN133 : 133 < NWc := by decide
theorem lN134 : 134 < NWc := by decide
theorem lN135 : 135 < NWc := by decide
theorem lN136 : 136 < NWc := by decide
theorem lN137 : 137 < NWc := by decide
theorem lN138 : 138 < NWc := by decide
theorem lN139 : 139 < NWc := by decide
theorem lN140 : 140 < NWc := by decide
theorem lN141 : 141 < NWc := by decide
theorem lN142 : 142 < NWc := by decide
theorem lN143 : 143 < NWc := by decide
theorem lN144 : 144 < NWc := by decide
theorem lN145 : 145 < NWc := by decide
theorem lN146 : 146 < NWc := by decide
theorem lN147 : 147 < NWc := by decide
theorem lN148 : 148 < NWc := by decide
theorem lN149 : 149 < NWc := by decide
theorem lN150 : 150 < NWc := by decide
theorem lN151 : 151 < NWc := by decide
theorem lN152 : 152 < NWc := by decide
theorem lN153 : 153 < NWc := by decide
theorem eS0 {y : Cy} {k : Nat} (hk : k < 7) (m : Nat → Int32) : ent y (sI k 0) m = .inr (5, [.int (m 0), .int (m 1), .int (m 2), .int (m 3), .int (m 4), .int (m 5), .int (m 6), .ref (y.2.1 (sI k 1)), .ref (y.2.1 (sI k 6)), .ref (y.2.1 (sI k 12))]) := by rw [ent_s hk 0 (by decide)]; rfl
theorem eS1 {y : Cy} {k : Nat} (hk : k < 7) (m : Nat → Int32) : ent y (sI k 1) m = .inr (4, [.int (m 0), .ref (y.2.1 (sI k 2)), .ref (y.2.1 (sI k 3)), .ref (y.2.1 (sI k 4)), .ref (y.2.1 (sI k 5))]) := by rw [ent_s hk 1 (by decide)]; rfl
theorem eS2 {y : Cy} {k : Nat} (hk : k < 7) (m : Nat → Int32) : ent y (sI k 2) m = .inl (y.2.2 0, (8, .inl m)) := by rw [ent_s hk 2 (by decide)]; rfl
theorem eS3 {y : Cy} {k : Nat} (hk : k < 7) (m : Nat → Int32) : ent y (sI k 3) m = .inl (y.2.2 0, (8, .inl m)) := by rw [ent_s hk 3 (by decide)]; rfl
theorem eS4 {y : Cy} {k : Nat} (hk : k < 7) (m : Nat → Int32) : ent y (sI k 4) m = .inl (y.2.2 0, (8, .inl m)) := by rw [ent_s hk 4 (by decide)]; rfl
theorem eS5 {y : Cy} {k : Nat} (hk : k < 7) (m : Nat → Int32) : ent y (sI k 5) m = .inl (y.2.2 0, (8, .inl m)) := by rw [ent_s hk 5 (by decide)]; rfl
theorem eS6 {y : Cy} {k : Nat} (hk : k < 7) (m : Nat → Int32) : ent y (sI k 6) m = .inr (0, [.int (m 0), .ref (y.2.1 (sI k 7)), .ref (y.2.1 (sI k 8)), .ref (y.2.1 (sI k 9)), .ref (y.2.1 (sI k 10)), .ref (y.2.1 (sI k 11))]) := by rw [ent_s hk 6 (by decide)]; rfl
theorem eS7 {y : Cy} {k : Nat} (hk : k < 7) (m : Nat → Int32) : ent y (sI k 7) m = .inl (y.2.2 0, (60, .inl m)) := by rw [ent_s hk 7 (by decide)]; rfl
theorem eS8 {y : Cy} {k : Nat} (hk : k < 7) (m : Nat → Int32) : ent y (sI k 8) m = .inl (y.2.2 0, (60, .inl m)) := by rw [ent_s hk 8 (by decide)]; rfl
theorem eS9 {y : Cy} {k : Nat} (hk : k < 7) (m : Nat → Int32) : ent y (sI k 9) m = .inl (y.2.2 0, (60, .inl m)) := by rw [ent_s hk 9 (by decide)]; rfl
theorem eS10 {y : Cy} {k : Nat} (hk : k < 7) (m : Nat → Int32) : ent y (sI k 10) m = .inl (y.2.2 0, (60, .inl m)) := by rw [ent_s hk 10 (by decide)]; rfl
theorem eS11 {y : Cy} {k : Nat} (hk : k < 7) (m : Nat → Int32) : ent y (sI k 11) m = .inl (y.2.2 0, (60, .inl m)) := by rw [ent_s hk 11 (by decide)]; rfl
theorem eS12 {y : Cy} {k : Nat} (hk : k < 7) (m : Nat → Int32) : ent y (sI k 12) m = .inr (7, [.int (m 0), .ref (y.2.1 (sI k 13)), .ref (y.2.1 (sI k 14)), .ref (y.2.1 (sI k 15))]) := by rw [ent_s hk 12 (by decide)]; rfl
theorem eS13 {y : Cy} {k : Nat} (hk : k < 7) (m : Nat → Int32) : ent y (sI k 13) m = .inl (y.2.2 0, (8, .inl m)) := by rw [ent_s hk 13 (by decide)]; rfl
theorem eS14 {y : Cy} {k : Nat} (hk : k < 7) (m : Nat → Int32) : ent y (sI k 14) m = .inl (y.2.2 0, (8, .inl m)) := by rw [ent_s hk 14 (by decide)]; rfl
theorem eS15 {y : Cy} {k : Nat} (hk : k < 7) (m : Nat → Int32) : ent y (sI k 15) m = .inl (y.2.2 0, (8, .inl m)) := by rw [ent_s hk 15 (by decide)]; rfl
theorem eC0 {y : Cy} {c : Nat} (hc : c < 2) (m : Nat → Int32) : ent y (cI c 0) m = .inr (1, [.int (m 0), .int (m 1), .int (m 2), .int (m 3), .int (m 4), .int (m 5), .int (m 6), .int (m 7), .ref (y.2.1 (cI c 1)), .ref (y.2.1 (cI c 2)), .ref (y.2.1 (cI c 3)), .ref (y.2.1 (cI c 4)), .ref (y.2.1 (cI c 5)), .ref (y.2.1 (cI c 6)), .ref (y.2.1 (cI c 7)), .ref (y.2.1 (cI c 8)), .ref (y.2.1 (cI c 9))]) := by rw [ent_c hc 0 (by decide)]; rfl
theorem eC1 {y : Cy} {c : Nat} (hc : c < 2) (m : Nat → Int32) : ent y (cI c 1) m = .inl (y.2.2 0, (61, .inl m)) := by rw [ent_c hc 1 (by decide)]; rfl
theorem eC2 {y : Cy} {c : Nat} (hc : c < 2) (m : Nat → Int32) : ent y (cI c 2) m = .inl (y.2.2 0, (61, .inl m)) := by rw [ent_c hc 2 (by decide)]; rfl
theorem eC3 {y : Cy} {c : Nat} (hc : c < 2) (m : Nat → Int32) : ent y (cI c 3) m = .inl (y.2.2 0, (61, .inl m)) := by rw [ent_c hc 3 (by decide)]; rfl
theorem eC4 {y : Cy} {c : Nat} (hc : c < 2) (m : Nat → Int32) : ent y (cI c 4) m = .inl (y.2.2 0, (61, .inl m)) := by rw [ent_c hc 4 (by decide)]; rfl
theorem eC5 {y : Cy} {c : Nat} (hc : c < 2) (m : Nat → Int32) : ent y (cI c 5) m = .inl (y.2.2 0, (61, .inl m)) := by rw [ent_c hc 5 (by decide)]; rfl
theorem eC6 {y : Cy} {c : Nat} (hc : c < 2) (m : Nat → Int32) : ent y (cI c 6) m = .inl (y.2.2 0, (61, .inl m)) := by rw [ent_c hc 6 (by decide)]; rfl
theorem eC7 {y : Cy} {c : Nat} (hc : c < 2) (m : Nat → Int32) : ent y (cI c 7) m = .inl (y.2.2 0, (61, .inl m)) := by rw [ent_c hc 7 (by decide)]; rfl
theorem eC8 {y : Cy} {c : Nat} (hc : c < 2) (m : Nat → Int32) : ent y (cI c 8) m = .inl (y.2.2 0, (61, .inl m)) := by rw [ent_c hc 8 (by decide)]; rfl
theorem eC9 {y : Cy} {c : Nat} (hc : c < 2) (m : Nat → Int32) : ent y (cI c 9) m = .inl (y.2.2 0, (61, .inl m)) := by rw [ent_c hc 9 (by decide)]; rfl
theorem eM132 {y : Cy} (m : Nat → Int32) : ent y 132 m = .inr (3, [.ref (y.2.1 (cI 1 0)), .ref (y.2.1 133), .int (m 2), .int (m 3)]) := by rw [ent_m (by decide)]; rfl
theorem eM133 {y : Cy} (m : Nat → Int32) : ent y 133 m = .inl (y.2.2 1, (60, .inl m)) := by rw [ent_m (by decide)]; rfl
theorem eM134 {y : Cy} (m : Nat → Int32) : ent y 134 m = .inr (2, [.ref (y.2.1 135), .int (m 1)]) := by rw [ent_m (by decide)]; rfl
theorem eM136 {y : Cy} (m : Nat → Int32) : ent y 136 m = .inr (6, [.ref (y.2.1 137), .int (m 1), .int (m 2), .ref (y.2.1 138), .ref (y.2.1 139), .ref (y.2.1 140), .int (m 6)]) := by rw [ent_m (by decide)]; rfl
theorem eM137 {y : Cy} (m : Nat → Int32) : ent y 137 m = .inl (y.2.2 2, (60, .inl m)) := by rw [ent_m (by decide)]; rfl
theorem eM138 {y : Cy} (m : Nat → Int32) : ent y 138 m = .inl (y.2.2 0, (10, .inl m)) := by rw [ent_m (by decide)]; rfl
theorem eM139 {y : Cy} (m : Nat → Int32) : ent y 139 m = .inl (y.2.2 0, (10, .inl m)) := by rw [ent_m (by decide)]; rfl
theorem eM140 {y : Cy} (m : Nat → Int32) : ent y 140 m = .inl (y.2.2 0, (10, .inl m)) := by rw [ent_m (by decide)]; rfl
theorem eM141 {y : Cy} (m : Nat → Int32) : ent y 141 m = .inr (8, [.ref (y.2.1 (sI 0 0)), .ref (y.2.1 (sI 1 0)), .ref (y.2.1 (sI 2 0)), .int (m 3), .ref (y.2.1 134), .ref (y.2.1 136), .ref (y.2.1 (cI 0 0)), .ref (y.2.1 132), .ref (y.2.1 142)]) := by rw [ent_m (by decide)]; rfl
theorem eM142 {y : Cy} (m : Nat → Int32) : ent y 142 m = .inl (y.2.2 1, (60, .inl m)) := by rw [ent_m (by decide)]; rfl
theorem eM143 {y : Cy} (m : Nat → Int32) : ent y 143 m = .inr (9, [.ref (y.2.1 144), .ref (y.2.1 145), .int (m 2), .ref (y.2.1 146), .int (m 4), .ref (y.2.1 147), .ref (y.2.1 148), .ref (y.2.1 149), .ref (y.2.1 150), .ref (y.2.1 151), .int (m 10), .int (m 11), .int (m 12), .int (m 13), .int (m 14), .int (m 15), .int (m 16), .ref (y.2.1 152), .int (m 18), .ref (y.2.1 153), .int (m 20), .int (m 21), .int (m 22), .int (m 23)]) := by rw [ent_m (by decide)]; rfl
theorem eM144 {y : Cy} (m : Nat → Int32) : ent y 144 m = .inl (y.2.2 0, (366, .inl m)) := by rw [ent_m (by decide)]; rfl
theorem eM145 {y : Cy} (m : Nat → Int32) : ent y 145 m = .inl (y.2.2 0, (1464, .inl m)) := by rw [ent_m (by decide)]; rfl
theorem eM146 {y : Cy} (m : Nat → Int32) : ent y 146 m = .inl (y.2.2 0, (366, .inl m)) := by rw [ent_m (by decide)]; rfl
theorem eM147 {y : Cy} (m : Nat → Int32) : ent y 147 m = .inl (y.2.2 0, (366, .inl m)) := by rw [ent_m (by decide)]; rfl
theorem eM148 {y : Cy} (m : Nat → Int32) : ent y 148 m = .inl (y.2.2 0, (61, .inl m)) := by rw [ent_m (by decide)]; rfl
theorem eM149 {y : Cy} (m : Nat → Int32) : ent y 149 m = .inl (y.2.2 0, (61, .inl m)) := by rw [ent_m (by decide)]; rfl
theorem eM150 {y : Cy} (m : Nat → Int32) : ent y 150 m = .inl (y.2.2 0, (61, .inl m)) := by rw [ent_m (by decide)]; rfl
theorem eM151 {y : Cy} (m : Nat → Int32) : ent y 151 m = .inl (y.2.2 0, (61, .inl m)) := by rw [ent_m (by decide)]; rfl
theorem eM152 {y : Cy} (m : Nat → Int32) : ent y 152 m = .inl (y.2.2 1, (60, .inl m)) := by rw [ent_m (by decide)]; rfl
theorem eM153 {y : Cy} (m : Nat → Int32) : ent y 153 m = .inl (y.2.2 2, (60, .inl m)) := by rw [ent_m (by decide)]; rfl
theorem uTX0 : ∀ w ∈ u_ws RX0 TX0 6, w ∈ TT := by decide +kernel
theorem uTX1 : ∀ w ∈ u_ws RX1 TX1 17, w ∈ TT := by decide +kernel
theorem uTX2 : ∀ w ∈ u_ws RX2 TX2 2, w ∈ TT := by decide +kernel
theorem uTX3 : ∀ w ∈ u_ws RX3 TX3 4, w ∈ TT := by decide +kernel
theorem uTX4 : ∀ w ∈ u_ws RX4 TX4 5, w ∈ TT := by decide +kernel
theorem uTX5 : ∀ w ∈ u_ws RX5 TX5 10, w ∈ TT := by decide +kernel
theorem uTX6 : ∀ w ∈ u_ws RX6 TX6 7, w ∈ TT := by decide +kernel
theorem uTX7 : ∀ w ∈ u_ws RX7 TX7 4, w ∈ TT := by decide +kernel
theorem uTX8 : ∀ w ∈ u_ws RX8 TX8 9, w ∈ TT := by decide +kernel
theorem uTX9 : ∀ w ∈ u_ws RX9 TX9 24, w ∈ TT := by decide +kernel
set_option maxRecDepth 20000 in
theorem fl_X4_24 : FL RX4 24 4 0 := ⟨RX4, TX4, 5, rfl, by decide, uTX4, rfl, (tt_mem 33 rfl rfl)⟩
set_option maxRecDepth 20000 in
theorem fp_X4_24 : FP RX4 24 4 0 .int := ⟨RX4, TX4, 5, tyX4, rfl, by decide, uTX4, rfl, (tt_mem 33 rfl rfl), tyX4_ok, nmX4, rfl, by decide +kernel⟩
set_option maxRecDepth 20000 in
theorem fl_X8_66 : FL RX8 66 4 0 := ⟨RX4, TX4, 5, rfl, by decide, uTX4, rfl, (tt_mem 34 rfl rfl)⟩
set_option maxRecDepth 20000 in
theorem fp_X8_66 : FP RX8 66 4 0 .int := ⟨RX4, TX4, 5, tyX4, rfl, by decide, uTX4, rfl, (tt_mem 34 rfl rfl), tyX4_ok, nmX4, rfl, by decide +kernel⟩
set_option maxRecDepth 20000 in
theorem fl_X4_9 : FL RX4 9 4 1 := ⟨RX4, TX4, 5, rfl, by decide, uTX4, rfl, (tt_mem 35 rfl rfl)⟩
set_option maxRecDepth 20000 in
theorem fl_X1_109 : FL RX1 109 4 1 := ⟨RX4, TX4, 5, rfl, by decide, uTX4, rfl, (tt_mem 36 rfl rfl)⟩
set_option maxRecDepth 20000 in
theorem fl_X8_215 : FL RX8 215 4 1 := ⟨RX4, TX4, 5, rfl, by decide, uTX4, rfl, (tt_mem 37 rfl rfl)⟩
set_option maxRecDepth 20000 in
theorem fl_X4_15 : FL RX4 15 4 2 := ⟨RX4, TX4, 5, rfl, by decide, uTX4, rfl, (tt_mem 38 rfl rfl)⟩
set_option maxRecDepth 20000 in
theorem fl_X1_110 : FL RX1 110 4 2 := ⟨RX4, TX4, 5, rfl, by decide, uTX4, rfl, (tt_mem 39 rfl rfl)⟩
set_option maxRecDepth 20000 in
theorem fl_X8_218 : FL RX8 218 4 2 := ⟨RX4, TX4, 5, rfl, by decide, uTX4, rfl, (tt_mem 40 rfl rfl)⟩
set_option maxRecDepth 20000 in
theorem fl_X4_18 : FL RX4 18 4 3 := ⟨RX4, TX4, 5, rfl, by decide, uTX4, rfl, (tt_mem 41 rfl rfl)⟩
set_option maxRecDepth 20000 in
theorem fl_X1_111 : FL RX1 111 4 3 := ⟨RX4, TX4, 5, rfl, by decide, uTX4, rfl, (tt_mem 42 rfl rfl)⟩
set_option maxRecDepth 20000 in
theorem fl_X8_221 : FL RX8 221 4 3 := ⟨RX4, TX4, 5, rfl, by decide, uTX4, rfl, (tt_mem 43 rfl rfl)⟩
set_option maxRecDepth 20000 in
theorem fl_X4_21 : FL RX4 21 4 4 := ⟨RX4, TX4, 5, rfl, by decide, uTX4, rfl, (tt_mem 44 rfl rfl)⟩
set_option maxRecDepth 20000 in
theorem fl_X8_224 : FL RX8 224 4 4 := ⟨RX4, TX4, 5, rfl, by decide, uTX4, rfl, (tt_mem 45 rfl rfl)⟩
set_option maxRecDepth 20000 in
theorem fl_X0_27 : FL RX0 27 0 0 := ⟨RX0, TX0, 6, rfl, by decide, uTX0, rfl, (tt_mem 64 rfl rfl)⟩
set_option maxRecDepth 20000 in
theorem fp_X0_27 : FP RX0 27 0 0 .int := ⟨RX0, TX0, 6, tyX0, rfl, by decide, uTX0, rfl, (tt_mem 64 rfl rfl), tyX0_ok, nmX0, rfl, by decide +kernel⟩
set_option maxRecDepth 20000 in
theorem fl_X5_45 : FL RX5 45 0 0 := ⟨RX0, TX0, 6, rfl, by decide, uTX0, rfl, (tt_mem 65 rfl rfl)⟩
set_option maxRecDepth 20000 in
theorem fp_X5_45 : FP RX5 45 0 0 .int := ⟨RX0, TX0, 6, tyX0, rfl, by decide, uTX0, rfl, (tt_mem 65 rfl rfl), tyX0_ok, nmX0, rfl, by decide +kernel⟩
set_option maxRecDepth 20000 in
theorem fl_X1_76 : FL RX1 76 0 0 := ⟨RX0, TX0, 6, rfl, by decide, uTX0, rfl, (tt_mem 66 rfl rfl)⟩
set_option maxRecDepth 20000 in
theorem fp_X1_76 : FP RX1 76 0 0 .int := ⟨RX0, TX0, 6, tyX0, rfl, by decide, uTX0, rfl, (tt_mem 66 rfl rfl), tyX0_ok, nmX0, rfl, by decide +kernel⟩
set_option maxRecDepth 20000 in
theorem fl_X8_158 : FL RX8 158 0 0 := ⟨RX0, TX0, 6, rfl, by decide, uTX0, rfl, (tt_mem 67 rfl rfl)⟩
set_option maxRecDepth 20000 in
theorem fp_X8_158 : FP RX8 158 0 0 .int := ⟨RX0, TX0, 6, tyX0, rfl, by decide, uTX0, rfl, (tt_mem 67 rfl rfl), tyX0_ok, nmX0, rfl, by decide +kernel⟩
set_option maxRecDepth 20000 in
theorem fl_X0_9 : FL RX0 9 0 1 := ⟨RX0, TX0, 6, rfl, by decide, uTX0, rfl, (tt_mem 68 rfl rfl)⟩
set_option maxRecDepth 20000 in
theorem fl_X8_131 : FL RX8 131 0 1 := ⟨RX0, TX0, 6, rfl, by decide, uTX0, rfl, (tt_mem 69 rfl rfl)⟩
set_option maxRecDepth 20000 in
theorem fl_X0_15 : FL RX0 15 0 2 := ⟨RX0, TX0, 6, rfl, by decide, uTX0, rfl, (tt_mem 70 rfl rfl)⟩
set_option maxRecDepth 20000 in
theorem fl_X5_56 : FL RX5 56 0 2 := ⟨RX0, TX0, 6, rfl, by decide, uTX0, rfl, (tt_mem 71 rfl rfl)⟩
set_option maxRecDepth 20000 in
theorem fl_X1_85 : FL RX1 85 0 2 := ⟨RX0, TX0, 6, rfl, by decide, uTX0, rfl, (tt_mem 72 rfl rfl)⟩
set_option maxRecDepth 20000 in
theorem fl_X8_134 : FL RX8 134 0 2 := ⟨RX0, TX0, 6, rfl, by decide, uTX0, rfl, (tt_mem 73 rfl rfl)⟩
set_option maxRecDepth 20000 in
theorem fl_X0_18 : FL RX0 18 0 3 := ⟨RX0, TX0, 6, rfl, by decide, uTX0, rfl, (tt_mem 74 rfl rfl)⟩
set_option maxRecDepth 20000 in
theorem fl_X5_52 : FL RX5 52 0 3 := ⟨RX0, TX0, 6, rfl, by decide, uTX0, rfl, (tt_mem 75 rfl rfl)⟩
set_option maxRecDepth 20000 in
theorem fl_X1_88 : FL RX1 88 0 3 := ⟨RX0, TX0, 6, rfl, by decide, uTX0, rfl, (tt_mem 76 rfl rfl)⟩
set_option maxRecDepth 20000 in
theorem fl_X8_145 : FL RX8 145 0 3 := ⟨RX0, TX0, 6, rfl, by decide, uTX0, rfl, (tt_mem 77 rfl rfl)⟩
set_option maxRecDepth 20000 in
theorem fl_X0_21 : FL RX0 21 0 4 := ⟨RX0, TX0, 6, rfl, by decide, uTX0, rfl, (tt_mem 78 rfl rfl)⟩
set_option maxRecDepth 20000 in
theorem fl_X1_107 : FL RX1 107 0 4 := ⟨RX0, TX0, 6, rfl, by decide, uTX0, rfl, (tt_mem 79 rfl rfl)⟩
set_option maxRecDepth 20000 in
theorem fl_X8_121 : FL RX8 121 0 4 := ⟨RX0, TX0, 6, rfl, by decide, uTX0, rfl, (tt_mem 80 rfl rfl)⟩
set_option maxRecDepth 20000 in
theorem fl_X0_24 : FL RX0 24 0 5 := ⟨RX0, TX0, 6, rfl, by decide, uTX0, rfl, (tt_mem 81 rfl rfl)⟩
set_option maxRecDepth 20000 in
theorem fl_X1_108 : FL RX1 108 0 5 := ⟨RX0, TX0, 6, rfl, by decide, uTX0, rfl, (tt_mem 82 rfl rfl)⟩
set_option maxRecDepth 20000 in
theorem fl_X8_240 : FL RX8 240 0 5 := ⟨RX0, TX0, 6, rfl, by decide, uTX0, rfl, (tt_mem 83 rfl rfl)⟩
set_option maxRecDepth 20000 in
theorem fl_X7_21 : FL RX7 21 7 0 := ⟨RX7, TX7, 4, rfl, by decide, uTX7, rfl, (tt_mem 103 rfl rfl)⟩
set_option maxRecDepth 20000 in
theorem fp_X7_21 : FP RX7 21 7 0 .int := ⟨RX7, TX7, 4, tyX7, rfl, by decide, uTX7, rfl, (tt_mem 103 rfl rfl), tyX7_ok, nmX7, rfl, by decide +kernel⟩
set_option maxRecDepth 20000 in
theorem fl_X8_170 : FL RX8 170 7 0 := ⟨RX7, TX7, 4, rfl, by decide, uTX7, rfl, (tt_mem 104 rfl rfl)⟩
set_option maxRecDepth 20000 in
theorem fp_X8_170 : FP RX8 170 7 0 .int := ⟨RX7, TX7, 4, tyX7, rfl, by decide, uTX7, rfl, (tt_mem 104 rfl rfl), tyX7_ok, nmX7, rfl, by decide +kernel⟩
set_option maxRecDepth 20000 in
theorem fl_X7_9 : FL RX7 9 7 1 := ⟨RX7, TX7, 4, rfl, by decide, uTX7, rfl, (tt_mem 105 rfl rfl)⟩
set_option maxRecDepth 20000 in
theorem fl_X8_252 : FL RX8 252 7 1 := ⟨RX7, TX7, 4, rfl, by decide, uTX7, rfl, (tt_mem 106 rfl rfl)⟩
set_option maxRecDepth 20000 in
theorem fl_X7_15 : FL RX7 15 7 2 := ⟨RX7, TX7, 4, rfl, by decide, uTX7, rfl, (tt_mem 107 rfl rfl)⟩
set_option maxRecDepth 20000 in
theorem fl_X8_175 : FL RX8 175 7 2 := ⟨RX7, TX7, 4, rfl, by decide, uTX7, rfl, (tt_mem 108 rfl rfl)⟩
set_option maxRecDepth 20000 in
theorem fl_X7_18 : FL RX7 18 7 3 := ⟨RX7, TX7, 4, rfl, by decide, uTX7, rfl, (tt_mem 109 rfl rfl)⟩
set_option maxRecDepth 20000 in
theorem fl_X8_253 : FL RX8 253 7 3 := ⟨RX7, TX7, 4, rfl, by decide, uTX7, rfl, (tt_mem 110 rfl rfl)⟩
set_option maxRecDepth 20000 in
theorem fl_X5_42 : FL RX5 42 5 0 := ⟨RX5, TX5, 10, rfl, by decide, uTX5, rfl, (tt_mem 120 rfl rfl)⟩
set_option maxRecDepth 20000 in
theorem fp_X5_42 : FP RX5 42 5 0 .int := ⟨RX5, TX5, 10, tyX5, rfl, by decide, uTX5, rfl, (tt_mem 120 rfl rfl), tyX5_ok, nmX5, rfl, by decide +kernel⟩
set_option maxRecDepth 20000 in
theorem fl_X1_43 : FL RX1 43 5 0 := ⟨RX5, TX5, 10, rfl, by decide, uTX5, rfl, (tt_mem 121 rfl rfl)⟩
set_option maxRecDepth 20000 in
theorem fp_X1_43 : FP RX1 43 5 0 .int := ⟨RX5, TX5, 10, tyX5, rfl, by decide, uTX5, rfl, (tt_mem 121 rfl rfl), tyX5_ok, nmX5, rfl, by decide +kernel⟩
set_option maxRecDepth 20000 in
theorem fl_X3_30 : FL RX3 30 5 0 := ⟨RX5, TX5, 10, rfl, by decide, uTX5, rfl, (tt_mem 122 rfl rfl)⟩
set_option maxRecDepth 20000 in
theorem fp_X3_30 : FP RX3 30 5 0 .int := ⟨RX5, TX5, 10, tyX5, rfl, by decide, uTX5, rfl, (tt_mem 122 rfl rfl), tyX5_ok, nmX5, rfl, by decide +kernel⟩
set_option maxRecDepth 20000 in
theorem fl_X8_180 : FL RX8 180 5 0 := ⟨RX5, TX5, 10, rfl, by decide, uTX5, rfl, (tt_mem 123 rfl rfl)⟩
set_option maxRecDepth 20000 in
theorem fp_X8_180 : FP RX8 180 5 0 .int := ⟨RX5, TX5, 10, tyX5, rfl, by decide, uTX5, rfl, (tt_mem 123 rfl rfl), tyX5_ok, nmX5, rfl, by decide +kernel⟩
set_option maxRecDepth 20000 in
theorem fl_X5_9 : FL RX5 9 5 1 := ⟨RX5, TX5, 10, rfl, by decide, uTX5, rfl, (tt_mem 124 rfl rfl)⟩
set_option maxRecDepth 20000 in
theorem fp_X5_9 : FP RX5 9 5 1 .int := ⟨RX5, TX5, 10, tyX5, rfl, by decide, uTX5, rfl, (tt_mem 124 rfl rfl), tyX5_ok, nmX5, rfl, by decide +kernel⟩
set_option maxRecDepth 20000 in
theorem fl_X1_50 : FL RX1 50 5 1 := ⟨RX5, TX5, 10, rfl, by decide, uTX5, rfl, (tt_mem 125 rfl rfl)⟩
set_option maxRecDepth 20000 in
theorem fp_X1_50 : FP RX1 50 5 1 .int := ⟨RX5, TX5, 10, tyX5, rfl, by decide, uTX5, rfl, (tt_mem 125 rfl rfl), tyX5_ok, nmX5, rfl, by decide +kernel⟩
set_option maxRecDepth 20000 in
theorem fl_X8_90 : FL RX8 90 5 1 := ⟨RX5, TX5, 10, rfl, by decide, uTX5, rfl, (tt_mem 126 rfl rfl)⟩
set_option maxRecDepth 20000 in
theorem fp_X8_90 : FP RX8 90 5 1 .int := ⟨RX5, TX5, 10, tyX5, rfl, by decide, uTX5, rfl, (tt_mem 126 rfl rfl), tyX5_ok, nmX5, rfl, by decide +kernel⟩
set_option maxRecDepth 20000 in
theorem fl_X5_15 : FL RX5 15 5 2 := ⟨RX5, TX5, 10, rfl, by decide, uTX5, rfl, (tt_mem 127 rfl rfl)⟩
set_option maxRecDepth 20000 in
theorem fp_X5_15 : FP RX5 15 5 2 .int := ⟨RX5, TX5, 10, tyX5, rfl, by decide, uTX5, rfl, (tt_mem 127 rfl rfl), tyX5_ok, nmX5, rfl, by decide +kernel⟩
set_option maxRecDepth 20000 in
theorem fl_X1_54 : FL RX1 54 5 2 := ⟨RX5, TX5, 10, rfl, by decide, uTX5, rfl, (tt_mem 128 rfl rfl)⟩
set_option maxRecDepth 20000 in
theorem fp_X1_54 : FP RX1 54 5 2 .int := ⟨RX5, TX5, 10, tyX5, rfl, by decide, uTX5, rfl, (tt_mem 128 rfl rfl), tyX5_ok, nmX5, rfl, by decide +kernel⟩
set_option maxRecDepth 20000 in
theorem fl_X8_87 : FL RX8 87 5 2 := ⟨RX5, TX5, 10, rfl, by decide, uTX5, rfl, (tt_mem 129 rfl rfl)⟩
set_option maxRecDepth 20000 in
theorem fp_X8_87 : FP RX8 87 5 2 .int := ⟨RX5, TX5, 10, tyX5, rfl, by decide, uTX5, rfl, (tt_mem 129 rfl rfl), tyX5_ok, nmX5, rfl, by decide +kernel⟩
set_option maxRecDepth 20000 in
theorem fl_X5_18 : FL RX5 18 5 3 := ⟨RX5, TX5, 10, rfl, by decide, uTX5, rfl, (tt_mem 130 rfl rfl)⟩
set_option maxRecDepth 20000 in
theorem fp_X5_18 : FP RX5 18 5 3 .int := ⟨RX5, TX5, 10, tyX5, rfl, by decide, uTX5, rfl, (tt_mem 130 rfl rfl), tyX5_ok, nmX5, rfl, by decide +kernel⟩
set_option maxRecDepth 20000 in
theorem fl_X8_80 : FL RX8 80 5 3 := ⟨RX5, TX5, 10, rfl, by decide, uTX5, rfl, (tt_mem 131 rfl rfl)⟩
set_option maxRecDepth 20000 in
theorem fp_X8_80 : FP RX8 80 5 3 .int := ⟨RX5, TX5, 10, tyX5, rfl, by decide, uTX5, rfl, (tt_mem 131 rfl rfl), tyX5_ok, nmX5, rfl, by decide +kernel⟩
set_option maxRecDepth 20000 in
theorem fl_X1_58 : FL RX1 58 5 3 := ⟨RX5, TX5, 10, rfl, by decide, uTX5, rfl, (tt_mem 132 rfl rfl)⟩
set_option maxRecDepth 20000 in
theorem fp_X1_58 : FP RX1 58 5 3 .int := ⟨RX5, TX5, 10, tyX5, rfl, by decide, uTX5, rfl, (tt_mem 132 rfl rfl), tyX5_ok, nmX5, rfl, by decide +kernel⟩
set_option maxRecDepth 20000 in
theorem fl_X5_70 : FL RX5 70 5 4 := ⟨RX5, TX5, 10, rfl, by decide, uTX5, rfl, (tt_mem 133 rfl rfl)⟩
set_option maxRecDepth 20000 in
theorem fp_X5_70 : FP RX5 70 5 4 .int := ⟨RX5, TX5, 10, tyX5, rfl, by decide, uTX5, rfl, (tt_mem 133 rfl rfl), tyX5_ok, nmX5, rfl, by decide +kernel⟩
set_option maxRecDepth 20000 in
theorem fl_X8_163 : FL RX8 163 5 4 := ⟨RX5, TX5, 10, rfl, by decide, uTX5, rfl, (tt_mem 134 rfl rfl)⟩
set_option maxRecDepth 20000 in
theorem fp_X8_163 : FP RX8 163 5 4 .int := ⟨RX5, TX5, 10, tyX5, rfl, by decide, uTX5, rfl, (tt_mem 134 rfl rfl), tyX5_ok, nmX5, rfl, by decide +kernel⟩
set_option maxRecDepth 20000 in
theorem fl_X5_73 : FL RX5 73 5 5 := ⟨RX5, TX5, 10, rfl, by decide, uTX5, rfl, (tt_mem 135 rfl rfl)⟩
set_option maxRecDepth 20000 in
theorem fp_X5_73 : FP RX5 73 5 5 .int := ⟨RX5, TX5, 10, tyX5, rfl, by decide, uTX5, rfl, (tt_mem 135 rfl rfl), tyX5_ok, nmX5, rfl, by decide +kernel⟩
set_option maxRecDepth 20000 in
theorem fl_X8_269 : FL RX8 269 5 5 := ⟨RX5, TX5, 10, rfl, by decide, uTX5, rfl, (tt_mem 136 rfl rfl)⟩
set_option maxRecDepth 20000 in
theorem fp_X8_269 : FP RX8 269 5 5 .int := ⟨RX5, TX5, 10, tyX5, rfl, by decide, uTX5, rfl, (tt_mem 136 rfl rfl), tyX5_ok, nmX5, rfl, by decide +kernel⟩
set_option maxRecDepth 20000 in
theorem fl_X5_76 : FL RX5 76 5 6 := ⟨RX5, TX5, 10, rfl, by decide, uTX5, rfl, (tt_mem 137 rfl rfl)⟩
set_option maxRecDepth 20000 in
theorem fp_X5_76 : FP RX5 76 5 6 .int := ⟨RX5, TX5, 10, tyX5, rfl, by decide, uTX5, rfl, (tt_mem 137 rfl rfl), tyX5_ok, nmX5, rfl, by decide +kernel⟩
set_option maxRecDepth 20000 in
theorem fl_X8_272 : FL RX8 272 5 6 := ⟨RX5, TX5, 10, rfl, by decide, uTX5, rfl, (tt_mem 138 rfl rfl)⟩
set_option maxRecDepth 20000 in
theorem fp_X8_272 : FP RX8 272 5 6 .int := ⟨RX5, TX5, 10, tyX5, rfl, by decide, uTX5, rfl, (tt_mem 138 rfl rfl), tyX5_ok, nmX5, rfl, by decide +kernel⟩
set_option maxRecDepth 20000 in
theorem fl_X5_24 : FL RX5 24 5 7 := ⟨RX5, TX5, 10, rfl, by decide, uTX5, rfl, (tt_mem 139 rfl rfl)⟩
set_option maxRecDepth 20000 in
theorem fl_X8_62 : FL RX8 62 5 7 := ⟨RX5, TX5, 10, rfl, by decide, uTX5, rfl, (tt_mem 140 rfl rfl)⟩
set_option maxRecDepth 20000 in
theorem fl_X1_97 : FL RX1 97 5 7 := ⟨RX5, TX5, 10, rfl, by decide, uTX5, rfl, (tt_mem 141 rfl rfl)⟩
set_option maxRecDepth 20000 in
theorem fl_X3_65 : FL RX3 65 5 7 := ⟨RX5, TX5, 10, rfl, by decide, uTX5, rfl, (tt_mem 142 rfl rfl)⟩
set_option maxRecDepth 20000 in
theorem fl_X5_31 : FL RX5 31 5 8 := ⟨RX5, TX5, 10, rfl, by decide, uTX5, rfl, (tt_mem 143 rfl rfl)⟩
set_option maxRecDepth 20000 in
theorem fl_X1_72 : FL RX1 72 5 8 := ⟨RX5, TX5, 10, rfl, by decide, uTX5, rfl, (tt_mem 144 rfl rfl)⟩
set_option maxRecDepth 20000 in
theorem fl_X8_106 : FL RX8 106 5 8 := ⟨RX5, TX5, 10, rfl, by decide, uTX5, rfl, (tt_mem 145 rfl rfl)⟩
set_option maxRecDepth 20000 in
theorem fl_X5_38 : FL RX5 38 5 9 := ⟨RX5, TX5, 10, rfl, by decide, uTX5, rfl, (tt_mem 146 rfl rfl)⟩
set_option maxRecDepth 20000 in
theorem fl_X8_166 : FL RX8 166 5 9 := ⟨RX5, TX5, 10, rfl, by decide, uTX5, rfl, (tt_mem 147 rfl rfl)⟩
set_option maxRecDepth 20000 in
theorem fl_X2_11 : FL RX2 11 2 0 := ⟨RX2, TX2, 2, rfl, by decide, uTX2, rfl, (tt_mem 178 rfl rfl)⟩
set_option maxRecDepth 20000 in
theorem fl_X2_18 : FL RX2 18 2 1 := ⟨RX2, TX2, 2, rfl, by decide, uTX2, rfl, (tt_mem 179 rfl rfl)⟩
set_option maxRecDepth 20000 in
theorem fp_X2_18 : FP RX2 18 2 1 .int := ⟨RX2, TX2, 2, tyX2, rfl, by decide, uTX2, rfl, (tt_mem 179 rfl rfl), tyX2_ok, nmX2, rfl, by decide +kernel⟩
set_option maxRecDepth 20000 in
theorem fl_X8_211 : FL RX8 211 2 1 := ⟨RX2, TX2, 2, rfl, by decide, uTX2, rfl, (tt_mem 180 rfl rfl)⟩
set_option maxRecDepth 20000 in
theorem fp_X8_211 : FP RX8 211 2 1 .int := ⟨RX2, TX2, 2, tyX2, rfl, by decide, uTX2, rfl, (tt_mem 180 rfl rfl), tyX2_ok, nmX2, rfl, by decide +kernel⟩
set_option maxRecDepth 20000 in
theorem fl_X6_9 : FL RX6 9 6 0 := ⟨RX6, TX6, 7, rfl, by decide, uTX6, rfl, (tt_mem 192 rfl rfl)⟩
set_option maxRecDepth 20000 in
theorem fl_X6_25 : FL RX6 25 6 1 := ⟨RX6, TX6, 7, rfl, by decide, uTX6, rfl, (tt_mem 193 rfl rfl)⟩
set_option maxRecDepth 20000 in
theorem fp_X6_25 : FP RX6 25 6 1 .int := ⟨RX6, TX6, 7, tyX6, rfl, by decide, uTX6, rfl, (tt_mem 193 rfl rfl), tyX6_ok, nmX6, rfl, by decide +kernel⟩
set_option maxRecDepth 20000 in
theorem fl_X8_193 : FL RX8 193 6 1 := ⟨RX6, TX6, 7, rfl, by decide, uTX6, rfl, (tt_mem 194 rfl rfl)⟩
set_option maxRecDepth 20000 in
theorem fp_X8_193 : FP RX8 193 6 1 .int := ⟨RX6, TX6, 7, tyX6, rfl, by decide, uTX6, rfl, (tt_mem 194 rfl rfl), tyX6_ok, nmX6, rfl, by decide +kernel⟩
set_option maxRecDepth 20000 in
theorem fl_X6_29 : FL RX6 29 6 2 := ⟨RX6, TX6, 7, rfl, by decide, uTX6, rfl, (tt_mem 195 rfl rfl)⟩
set_option maxRecDepth 20000 in
theorem fp_X6_29 : FP RX6 29 6 2 .int := ⟨RX6, TX6, 7, tyX6, rfl, by decide, uTX6, rfl, (tt_mem 195 rfl rfl), tyX6_ok, nmX6, rfl, by decide +kernel⟩
set_option maxRecDepth 20000 in
theorem fl_X8_205 : FL RX8 205 6 2 := ⟨RX6, TX6, 7, rfl, by decide, uTX6, rfl, (tt_mem 196 rfl rfl)⟩
set_option maxRecDepth 20000 in
theorem fp_X8_205 : FP RX8 205 6 2 .int := ⟨RX6, TX6, 7, tyX6, rfl, by decide, uTX6, rfl, (tt_mem 196 rfl rfl), tyX6_ok, nmX6, rfl, by decide +kernel⟩
set_option maxRecDepth 20000 in
theorem fl_X6_15 : FL RX6 15 6 3 := ⟨RX6, TX6, 7, rfl, by decide, uTX6, rfl, (tt_mem 197 rfl rfl)⟩
set_option maxRecDepth 20000 in
theorem fl_X8_208 : FL RX8 208 6 3 := ⟨RX6, TX6, 7, rfl, by decide, uTX6, rfl, (tt_mem 198 rfl rfl)⟩
set_option maxRecDepth 20000 in
theorem fl_X6_19 : FL RX6 19 6 4 := ⟨RX6, TX6, 7, rfl, by decide, uTX6, rfl, (tt_mem 199 rfl rfl)⟩
set_option maxRecDepth 20000 in
theorem fl_X8_209 : FL RX8 209 6 4 := ⟨RX6, TX6, 7, rfl, by decide, uTX6, rfl, (tt_mem 200 rfl rfl)⟩
set_option maxRecDepth 20000 in
theorem fl_X6_22 : FL RX6 22 6 5 := ⟨RX6, TX6, 7, rfl, by decide, uTX6, rfl, (tt_mem 201 rfl rfl)⟩
set_option maxRecDepth 20000 in
theorem fl_X8_210 : FL RX8 210 6 5 := ⟨RX6, TX6, 7, rfl, by decide, uTX6, rfl, (tt_mem 202 rfl rfl)⟩
set_option maxRecDepth 20000 in
theorem fl_X6_32 : FL RX6 32 6 6 := ⟨RX6, TX6, 7, rfl, by decide, uTX6, rfl, (tt_mem 203 rfl rfl)⟩
set_option maxRecDepth 20000 in
theorem fp_X6_32 : FP RX6 32 6 6 .int := ⟨RX6, TX6, 7, tyX6, rfl, by decide, uTX6, rfl, (tt_mem 203 rfl rfl), tyX6_ok, nmX6, rfl, by decide +kernel⟩
set_option maxRecDepth 20000 in
theorem fl_X1_49 : FL RX1 49 1 0 := ⟨RX1, TX1, 17, rfl, by decide, uTX1, rfl, (tt_mem 226 rfl rfl)⟩
set_option maxRecDepth 20000 in
theorem fp_X1_49 : FP RX1 49 1 0 .int := ⟨RX1, TX1, 17, tyX1, rfl, by decide, uTX1, rfl, (tt_mem 226 rfl rfl), tyX1_ok, nmX1, rfl, by decide +kernel⟩
set_option maxRecDepth 20000 in
theorem fl_X8_304 : FL RX8 304 1 0 := ⟨RX1, TX1, 17, rfl, by decide, uTX1, rfl, (tt_mem 227 rfl rfl)⟩
set_option maxRecDepth 20000 in
theorem fp_X8_304 : FP RX8 304 1 0 .int := ⟨RX1, TX1, 17, tyX1, rfl, by decide, uTX1, rfl, (tt_mem 227 rfl rfl), tyX1_ok, nmX1, rfl, by decide +kernel⟩
set_option maxRecDepth 20000 in
theorem fl_X1_53 : FL RX1 53 1 1 := ⟨RX1, TX1, 17, rfl, by decide, uTX1, rfl, (tt_mem 228 rfl rfl)⟩
set_option maxRecDepth 20000 in
theorem fp_X1_53 : FP RX1 53 1 1 .int := ⟨RX1, TX1, 17, tyX1, rfl, by decide, uTX1, rfl, (tt_mem 228 rfl rfl), tyX1_ok, nmX1, rfl, by decide +kernel⟩
set_option maxRecDepth 20000 in
theorem fl_X8_256 : FL RX8 256 1 1 := ⟨RX1, TX1, 17, rfl, by decide, uTX1, rfl, (tt_mem 229 rfl rfl)⟩
set_option maxRecDepth 20000 in
theorem fp_X8_256 : FP RX8 256 1 1 .int := ⟨RX1, TX1, 17, tyX1, rfl, by decide, uTX1, rfl, (tt_mem 229 rfl rfl), tyX1_ok, nmX1, rfl, by decide +kernel⟩
set_option maxRecDepth 20000 in
theorem fl_X1_57 : FL RX1 57 1 2 := ⟨RX1, TX1, 17, rfl, by decide, uTX1, rfl, (tt_mem 230 rfl rfl)⟩
set_option maxRecDepth 20000 in
theorem fp_X1_57 : FP RX1 57 1 2 .int := ⟨RX1, TX1, 17, tyX1, rfl, by decide, uTX1, rfl, (tt_mem 230 rfl rfl), tyX1_ok, nmX1, rfl, by decide +kernel⟩
set_option maxRecDepth 20000 in
theorem fl_X1_61 : FL RX1 61 1 3 := ⟨RX1, TX1, 17, rfl, by decide, uTX1, rfl, (tt_mem 231 rfl rfl)⟩
set_option maxRecDepth 20000 in
theorem fp_X1_61 : FP RX1 61 1 3 .int := ⟨RX1, TX1, 17, tyX1, rfl, by decide, uTX1, rfl, (tt_mem 231 rfl rfl), tyX1_ok, nmX1, rfl, by decide +kernel⟩
set_option maxRecDepth 20000 in
theorem fl_X1_63 : FL RX1 63 1 4 := ⟨RX1, TX1, 17, rfl, by decide, uTX1, rfl, (tt_mem 232 rfl rfl)⟩
set_option maxRecDepth 20000 in
theorem fp_X1_63 : FP RX1 63 1 4 .int := ⟨RX1, TX1, 17, tyX1, rfl, by decide, uTX1, rfl, (tt_mem 232 rfl rfl), tyX1_ok, nmX1, rfl, by decide +kernel⟩
set_option maxRecDepth 20000 in
theorem fl_X8_257 : FL RX8 257 1 4 := ⟨RX1, TX1, 17, rfl, by decide, uTX1, rfl, (tt_mem 233 rfl rfl)⟩
set_option maxRecDepth 20000 in
theorem fp_X8_257 : FP RX8 257 1 4 .int := ⟨RX1, TX1, 17, tyX1, rfl, by decide, uTX1, rfl, (tt_mem 233 rfl rfl), tyX1_ok, nmX1, rfl, by decide +kernel⟩
set_option maxRecDepth 20000 in
theorem fl_X1_66 : FL RX1 66 1 5 := ⟨RX1, TX1, 17, rfl, by decide, uTX1, rfl, (tt_mem 234 rfl rfl)⟩
set_option maxRecDepth 20000 in
theorem fp_X1_66 : FP RX1 66 1 5 .int := ⟨RX1, TX1, 17, tyX1, rfl, by decide, uTX1, rfl, (tt_mem 234 rfl rfl), tyX1_ok, nmX1, rfl, by decide +kernel⟩
set_option maxRecDepth 20000 in
theorem fl_X8_305 : FL RX8 305 1 5 := ⟨RX1, TX1, 17, rfl, by decide, uTX1, rfl, (tt_mem 235 rfl rfl)⟩
set_option maxRecDepth 20000 in
theorem fp_X8_305 : FP RX8 305 1 5 .int := ⟨RX1, TX1, 17, tyX1, rfl, by decide, uTX1, rfl, (tt_mem 235 rfl rfl), tyX1_ok, nmX1, rfl, by decide +kernel⟩
set_option maxRecDepth 20000 in
theorem fl_X1_69 : FL RX1 69 1 6 := ⟨RX1, TX1, 17, rfl, by decide, uTX1, rfl, (tt_mem 236 rfl rfl)⟩
set_option maxRecDepth 20000 in
theorem fp_X1_69 : FP RX1 69 1 6 .int := ⟨RX1, TX1, 17, tyX1, rfl, by decide, uTX1, rfl, (tt_mem 236 rfl rfl), tyX1_ok, nmX1, rfl, by decide +kernel⟩
set_option maxRecDepth 20000 in
theorem fl_X3_52 : FL RX3 52 1 6 := ⟨RX1, TX1, 17, rfl, by decide, uTX1, rfl, (tt_mem 237 rfl rfl)⟩
set_option maxRecDepth 20000 in
theorem fp_X3_52 : FP RX3 52 1 6 .int := ⟨RX1, TX1, 17, tyX1, rfl, by decide, uTX1, rfl, (tt_mem 237 rfl rfl), tyX1_ok, nmX1, rfl, by decide +kernel⟩
set_option maxRecDepth 20000 in
theorem fl_X8_294 : FL RX8 294 1 6 := ⟨RX1, TX1, 17, rfl, by decide, uTX1, rfl, (tt_mem 238 rfl rfl)⟩
set_option maxRecDepth 20000 in
theorem fp_X8_294 : FP RX8 294 1 6 .int := ⟨RX1, TX1, 17, tyX1, rfl, by decide, uTX1, rfl, (tt_mem 238 rfl rfl), tyX1_ok, nmX1, rfl, by decide +kernel⟩
set_option maxRecDepth 20000 in
theorem fl_X1_94 : FL RX1 94 1 7 := ⟨RX1, TX1, 17, rfl, by decide, uTX1, rfl, (tt_mem 239 rfl rfl)⟩
set_option maxRecDepth 20000 in
theorem fp_X1_94 : FP RX1 94 1 7 .int := ⟨RX1, TX1, 17, tyX1, rfl, by decide, uTX1, rfl, (tt_mem 239 rfl rfl), tyX1_ok, nmX1, rfl, by decide +kernel⟩
set_option maxRecDepth 20000 in
theorem fl_X1_11 : FL RX1 11 1 8 := ⟨RX1, TX1, 17, rfl, by decide, uTX1, rfl, (tt_mem 240 rfl rfl)⟩
set_option maxRecDepth 20000 in
theorem fl_X3_55 : FL RX3 55 1 8 := ⟨RX1, TX1, 17, rfl, by decide, uTX1, rfl, (tt_mem 241 rfl rfl)⟩
set_option maxRecDepth 20000 in
theorem fl_X8_297 : FL RX8 297 1 8 := ⟨RX1, TX1, 17, rfl, by decide, uTX1, rfl, (tt_mem 242 rfl rfl)⟩
set_option maxRecDepth 20000 in
theorem fl_X1_15 : FL RX1 15 1 9 := ⟨RX1, TX1, 17, rfl, by decide, uTX1, rfl, (tt_mem 243 rfl rfl)⟩
set_option maxRecDepth 20000 in
theorem fl_X3_59 : FL RX3 59 1 9 := ⟨RX1, TX1, 17, rfl, by decide, uTX1, rfl, (tt_mem 244 rfl rfl)⟩
set_option maxRecDepth 20000 in
theorem fl_X8_289 : FL RX8 289 1 9 := ⟨RX1, TX1, 17, rfl, by decide, uTX1, rfl, (tt_mem 245 rfl rfl)⟩
set_option maxRecDepth 20000 in
theorem fl_X1_18 : FL RX1 18 1 10 := ⟨RX1, TX1, 17, rfl, by decide, uTX1, rfl, (tt_mem 246 rfl rfl)⟩
set_option maxRecDepth 20000 in
theorem fl_X8_303 : FL RX8 303 1 10 := ⟨RX1, TX1, 17, rfl, by decide, uTX1, rfl, (tt_mem 247 rfl rfl)⟩
set_option maxRecDepth 20000 in
theorem fl_X1_21 : FL RX1 21 1 11 := ⟨RX1, TX1, 17, rfl, by decide, uTX1, rfl, (tt_mem 248 rfl rfl)⟩
set_option maxRecDepth 20000 in
theorem fl_X3_85 : FL RX3 85 1 11 := ⟨RX1, TX1, 17, rfl, by decide, uTX1, rfl, (tt_mem 249 rfl rfl)⟩
set_option maxRecDepth 20000 in
theorem fl_X8_290 : FL RX8 290 1 11 := ⟨RX1, TX1, 17, rfl, by decide, uTX1, rfl, (tt_mem 250 rfl rfl)⟩
set_option maxRecDepth 20000 in
theorem fl_X1_24 : FL RX1 24 1 12 := ⟨RX1, TX1, 17, rfl, by decide, uTX1, rfl, (tt_mem 251 rfl rfl)⟩
set_option maxRecDepth 20000 in
theorem fl_X8_292 : FL RX8 292 1 12 := ⟨RX1, TX1, 17, rfl, by decide, uTX1, rfl, (tt_mem 252 rfl rfl)⟩
set_option maxRecDepth 20000 in
theorem fl_X1_27 : FL RX1 27 1 13 := ⟨RX1, TX1, 17, rfl, by decide, uTX1, rfl, (tt_mem 253 rfl rfl)⟩
set_option maxRecDepth 20000 in
theorem fl_X1_30 : FL RX1 30 1 14 := ⟨RX1, TX1, 17, rfl, by decide, uTX1, rfl, (tt_mem 254 rfl rfl)⟩
set_option maxRecDepth 20000 in
theorem fl_X1_33 : FL RX1 33 1 15 := ⟨RX1, TX1, 17, rfl, by decide, uTX1, rfl, (tt_mem 255 rfl rfl)⟩
set_option maxRecDepth 20000 in
theorem fl_X1_36 : FL RX1 36 1 16 := ⟨RX1, TX1, 17, rfl, by decide, uTX1, rfl, (tt_mem 256 rfl rfl)⟩
set_option maxRecDepth 20000 in
theorem fl_X3_12 : FL RX3 12 3 0 := ⟨RX3, TX3, 4, rfl, by decide, uTX3, rfl, (tt_mem 300 rfl rfl)⟩
set_option maxRecDepth 20000 in
theorem fl_X3_18 : FL RX3 18 3 1 := ⟨RX3, TX3, 4, rfl, by decide, uTX3, rfl, (tt_mem 301 rfl rfl)⟩
set_option maxRecDepth 20000 in
theorem fl_X3_78 : FL RX3 78 3 2 := ⟨RX3, TX3, 4, rfl, by decide, uTX3, rfl, (tt_mem 302 rfl rfl)⟩
set_option maxRecDepth 20000 in
theorem fp_X3_78 : FP RX3 78 3 2 .int := ⟨RX3, TX3, 4, tyX3, rfl, by decide, uTX3, rfl, (tt_mem 302 rfl rfl), tyX3_ok, nmX3, rfl, by decide +kernel⟩
set_option maxRecDepth 20000 in
theorem fl_X8_260 : FL RX8 260 3 2 := ⟨RX3, TX3, 4, rfl, by decide, uTX3, rfl, (tt_mem 303 rfl rfl)⟩
set_option maxRecDepth 20000 in
theorem fp_X8_260 : FP RX8 260 3 2 .int := ⟨RX3, TX3, 4, tyX3, rfl, by decide, uTX3, rfl, (tt_mem 303 rfl rfl), tyX3_ok, nmX3, rfl, by decide +kernel⟩
set_option maxRecDepth 20000 in
theorem fl_X3_62 : FL RX3 62 3 3 := ⟨RX3, TX3, 4, rfl, by decide, uTX3, rfl, (tt_mem 304 rfl rfl)⟩
set_option maxRecDepth 20000 in
theorem fp_X3_62 : FP RX3 62 3 3 .int := ⟨RX3, TX3, 4, tyX3, rfl, by decide, uTX3, rfl, (tt_mem 304 rfl rfl), tyX3_ok, nmX3, rfl, by decide +kernel⟩
set_option maxRecDepth 20000 in
theorem fl_X8_263 : FL RX8 263 3 3 := ⟨RX3, TX3, 4, rfl, by decide, uTX3, rfl, (tt_mem 305 rfl rfl)⟩
set_option maxRecDepth 20000 in
theorem fp_X8_263 : FP RX8 263 3 3 .int := ⟨RX3, TX3, 4, tyX3, rfl, by decide, uTX3, rfl, (tt_mem 305 rfl rfl), tyX3_ok, nmX3, rfl, by decide +kernel⟩
set_option maxRecDepth 20000 in
theorem fl_X8_12 : FL RX8 12 8 0 := ⟨RX8, TX8, 9, rfl, by decide, uTX8, rfl, (tt_mem 316 rfl rfl)⟩
set_option maxRecDepth 20000 in
theorem fl_X8_16 : FL RX8 16 8 1 := ⟨RX8, TX8, 9, rfl, by decide, uTX8, rfl, (tt_mem 317 rfl rfl)⟩
set_option maxRecDepth 20000 in
theorem fl_X8_19 : FL RX8 19 8 2 := ⟨RX8, TX8, 9, rfl, by decide, uTX8, rfl, (tt_mem 318 rfl rfl)⟩
set_option maxRecDepth 20000 in
theorem fl_X8_22 : FL RX8 22 8 3 := ⟨RX8, TX8, 9, rfl, by decide, uTX8, rfl, (tt_mem 319 rfl rfl)⟩
set_option maxRecDepth 20000 in
theorem fp_X8_22 : FP RX8 22 8 3 .boolean := ⟨RX8, TX8, 9, tyX8, rfl, by decide, uTX8, rfl, (tt_mem 319 rfl rfl), tyX8_ok, nmX8, rfl, by decide +kernel⟩
set_option maxRecDepth 20000 in
theorem fl_X8_29 : FL RX8 29 8 4 := ⟨RX8, TX8, 9, rfl, by decide, uTX8, rfl, (tt_mem 320 rfl rfl)⟩
set_option maxRecDepth 20000 in
theorem fl_X8_36 : FL RX8 36 8 5 := ⟨RX8, TX8, 9, rfl, by decide, uTX8, rfl, (tt_mem 321 rfl rfl)⟩
set_option maxRecDepth 20000 in
theorem fl_X8_43 : FL RX8 43 8 6 := ⟨RX8, TX8, 9, rfl, by decide, uTX8, rfl, (tt_mem 322 rfl rfl)⟩
set_option maxRecDepth 20000 in
theorem fl_X8_50 : FL RX8 50 8 7 := ⟨RX8, TX8, 9, rfl, by decide, uTX8, rfl, (tt_mem 323 rfl rfl)⟩
set_option maxRecDepth 20000 in
theorem fl_X8_54 : FL RX8 54 8 8 := ⟨RX8, TX8, 9, rfl, by decide, uTX8, rfl, (tt_mem 324 rfl rfl)⟩
set_option maxRecDepth 20000 in
theorem fl_X9_7 : FL RX9 7 9 0 := ⟨RX9, TX9, 24, rfl, by decide, uTX9, rfl, (tt_mem 732 rfl rfl)⟩
set_option maxRecDepth 20000 in
theorem fl_X9_13 : FL RX9 13 9 1 := ⟨RX9, TX9, 24, rfl, by decide, uTX9, rfl, (tt_mem 733 rfl rfl)⟩
set_option maxRecDepth 20000 in
theorem fl_X9_60 : FL RX9 60 9 2 := ⟨RX9, TX9, 24, rfl, by decide, uTX9, rfl, (tt_mem 734 rfl rfl)⟩
set_option maxRecDepth 20000 in
theorem fp_X9_60 : FP RX9 60 9 2 .int := ⟨RX9, TX9, 24, tyX9, rfl, by decide, uTX9, rfl, (tt_mem 734 rfl rfl), tyX9_ok, nmX9, rfl, by decide +kernel⟩
set_option maxRecDepth 20000 in
theorem fl_X9_16 : FL RX9 16 9 3 := ⟨RX9, TX9, 24, rfl, by decide, uTX9, rfl, (tt_mem 735 rfl rfl)⟩
set_option maxRecDepth 20000 in
theorem fl_X9_202 : FL RX9 202 9 4 := ⟨RX9, TX9, 24, rfl, by decide, uTX9, rfl, (tt_mem 736 rfl rfl)⟩
set_option maxRecDepth 20000 in
theorem fp_X9_202 : FP RX9 202 9 4 .boolean := ⟨RX9, TX9, 24, tyX9, rfl, by decide, uTX9, rfl, (tt_mem 736 rfl rfl), tyX9_ok, nmX9, rfl, by decide +kernel⟩
set_option maxRecDepth 20000 in
theorem fl_X9_19 : FL RX9 19 9 5 := ⟨RX9, TX9, 24, rfl, by decide, uTX9, rfl, (tt_mem 737 rfl rfl)⟩
set_option maxRecDepth 20000 in
theorem fl_X9_22 : FL RX9 22 9 6 := ⟨RX9, TX9, 24, rfl, by decide, uTX9, rfl, (tt_mem 738 rfl rfl)⟩
set_option maxRecDepth 20000 in
theorem fl_X9_25 : FL RX9 25 9 7 := ⟨RX9, TX9, 24, rfl, by decide, uTX9, rfl, (tt_mem 739 rfl rfl)⟩
set_option maxRecDepth 20000 in
theorem fl_X9_28 : FL RX9 28 9 8 := ⟨RX9, TX9, 24, rfl, by decide, uTX9, rfl, (tt_mem 740 rfl rfl)⟩
set_option maxRecDepth 20000 in
theorem fl_X9_31 : FL RX9 31 9 9 := ⟨RX9, TX9, 24, rfl, by decide, uTX9, rfl, (tt_mem 741 rfl rfl)⟩
set_option maxRecDepth 20000 in
theorem fl_X9_66 : FL RX9 66 9 10 := ⟨RX9, TX9, 24, rfl, by decide, uTX9, rfl, (tt_mem 742 rfl rfl)⟩
set_option maxRecDepth 20000 in
theorem fp_X9_66 : FP RX9 66 9 10 .int := ⟨RX9, TX9, 24, tyX9, rfl, by decide, uTX9, rfl, (tt_mem 742 rfl rfl), tyX9_ok, nmX9, rfl, by decide +kernel⟩
set_option maxRecDepth 20000 in
theorem fl_X9_34 : FL RX9 34 9 11 := ⟨RX9, TX9, 24, rfl, by decide, uTX9, rfl, (tt_mem 743 rfl rfl)⟩
set_option maxRecDepth 20000 in
theorem fp_X9_34 : FP RX9 34 9 11 .int := ⟨RX9, TX9, 24, tyX9, rfl, by decide, uTX9, rfl, (tt_mem 743 rfl rfl), tyX9_ok, nmX9, rfl, by decide +kernel⟩
set_option maxRecDepth 20000 in
theorem fl_X9_77 : FL RX9 77 9 12 := ⟨RX9, TX9, 24, rfl, by decide, uTX9, rfl, (tt_mem 744 rfl rfl)⟩
set_option maxRecDepth 20000 in
theorem fp_X9_77 : FP RX9 77 9 12 .int := ⟨RX9, TX9, 24, tyX9, rfl, by decide, uTX9, rfl, (tt_mem 744 rfl rfl), tyX9_ok, nmX9, rfl, by decide +kernel⟩
set_option maxRecDepth 20000 in
theorem fl_X9_38 : FL RX9 38 9 13 := ⟨RX9, TX9, 24, rfl, by decide, uTX9, rfl, (tt_mem 745 rfl rfl)⟩
set_option maxRecDepth 20000 in
theorem fp_X9_38 : FP RX9 38 9 13 .int := ⟨RX9, TX9, 24, tyX9, rfl, by decide, uTX9, rfl, (tt_mem 745 rfl rfl), tyX9_ok, nmX9, rfl, by decide +kernel⟩
set_option maxRecDepth 20000 in
theorem fl_X9_41 : FL RX9 41 9 14 := ⟨RX9, TX9, 24, rfl, by decide, uTX9, rfl, (tt_mem 746 rfl rfl)⟩
set_option maxRecDepth 20000 in
theorem fp_X9_41 : FP RX9 41 9 14 .int := ⟨RX9, TX9, 24, tyX9, rfl, by decide, uTX9, rfl, (tt_mem 746 rfl rfl), tyX9_ok, nmX9, rfl, by decide +kernel⟩
set_option maxRecDepth 20000 in
theorem fl_X9_70 : FL RX9 70 9 15 := ⟨RX9, TX9, 24, rfl, by decide, uTX9, rfl, (tt_mem 747 rfl rfl)⟩
set_option maxRecDepth 20000 in
theorem fp_X9_70 : FP RX9 70 9 15 .int := ⟨RX9, TX9, 24, tyX9, rfl, by decide, uTX9, rfl, (tt_mem 747 rfl rfl), tyX9_ok, nmX9, rfl, by decide +kernel⟩
set_option maxRecDepth 20000 in
theorem fl_X9_97 : FL RX9 97 9 16 := ⟨RX9, TX9, 24, rfl, by decide, uTX9, rfl, (tt_mem 748 rfl rfl)⟩
set_option maxRecDepth 20000 in
theorem fp_X9_97 : FP RX9 97 9 16 .int := ⟨RX9, TX9, 24, tyX9, rfl, by decide, uTX9, rfl, (tt_mem 748 rfl rfl), tyX9_ok, nmX9, rfl, by decide +kernel⟩
set_option maxRecDepth 20000 in
theorem fl_X9_44 : FL RX9 44 9 17 := ⟨RX9, TX9, 24, rfl, by decide, uTX9, rfl, (tt_mem 749 rfl rfl)⟩
set_option maxRecDepth 20000 in
theorem fl_X9_168 : FL RX9 168 9 18 := ⟨RX9, TX9, 24, rfl, by decide, uTX9, rfl, (tt_mem 750 rfl rfl)⟩
set_option maxRecDepth 20000 in
theorem fp_X9_168 : FP RX9 168 9 18 .int := ⟨RX9, TX9, 24, tyX9, rfl, by decide, uTX9, rfl, (tt_mem 750 rfl rfl), tyX9_ok, nmX9, rfl, by decide +kernel⟩
set_option maxRecDepth 20000 in
theorem fl_X9_48 : FL RX9 48 9 19 := ⟨RX9, TX9, 24, rfl, by decide, uTX9, rfl, (tt_mem 751 rfl rfl)⟩
set_option maxRecDepth 20000 in
theorem fl_X9_171 : FL RX9 171 9 20 := ⟨RX9, TX9, 24, rfl, by decide, uTX9, rfl, (tt_mem 752 rfl rfl)⟩
set_option maxRecDepth 20000 in
theorem fp_X9_171 : FP RX9 171 9 20 .int := ⟨RX9, TX9, 24, tyX9, rfl, by decide, uTX9, rfl, (tt_mem 752 rfl rfl), tyX9_ok, nmX9, rfl, by decide +kernel⟩
set_option maxRecDepth 20000 in
theorem fl_X9_178 : FL RX9 178 9 21 := ⟨RX9, TX9, 24, rfl, by decide, uTX9, rfl, (tt_mem 753 rfl rfl)⟩
set_option maxRecDepth 20000 in
theorem fp_X9_178 : FP RX9 178 9 21 .int := ⟨RX9, TX9, 24, tyX9, rfl, by decide, uTX9, rfl, (tt_mem 753 rfl rfl), tyX9_ok, nmX9, rfl, by decide +kernel⟩
set_option maxRecDepth 20000 in
theorem fl_X9_184 : FL RX9 184 9 22 := ⟨RX9, TX9, 24, rfl, by decide, uTX9, rfl, (tt_mem 754 rfl rfl)⟩
set_option maxRecDepth 20000 in
theorem fp_X9_184 : FP RX9 184 9 22 .int := ⟨RX9, TX9, 24, tyX9, rfl, by decide, uTX9, rfl, (tt_mem 754 rfl rfl), tyX9_ok, nmX9, rfl, by decide +kernel⟩
set_option maxRecDepth 20000 in
theorem fl_X9_190 : FL RX9 190 9 23 := ⟨RX9, TX9, 24, rfl, by decide, uTX9, rfl, (tt_mem 755 rfl rfl)⟩
set_option maxRecDepth 20000 in
theorem fp_X9_190 : FP RX9 190 9 23 .int := ⟨RX9, TX9, 24, tyX9, rfl, by decide, uTX9, rfl, (tt_mem 755 rfl rfl), tyX9_ok, nmX9, rfl, by decide +kernel⟩
set_option maxRecDepth 20000 in
theorem ct_X1_62 : Cond.constant RX1 62 (1000000) ∈ TT := (tt_mem 404 rfl rfl)
set_option maxRecDepth 20000 in
theorem ct_X9_69 : Cond.constant RX9 69 (99999) ∈ TT := (tt_mem 836 rfl rfl)
set_option maxRecDepth 20000 in
theorem lk_L_13 : LkV RL 13 yX8_addRecipe cX8_addRecipe 6 (some .int) 4 := ⟨(tt_mem 344 rfl rfl), (tt_mem 345 rfl rfl), (tt_mem 346 rfl rfl), (tt_mem 1 rfl rfl), (tt_mem 347 rfl rfl), by decide +kernel⟩
set_option maxRecDepth 20000 in
theorem lk_X8_58 : LkS RX8 58 yX8_within cX8_within 3 (some .boolean) 3 := ⟨(tt_mem 348 rfl rfl), (tt_mem 349 rfl rfl), rfl, (tt_mem 1 rfl rfl), (tt_mem 350 rfl rfl), by decide +kernel⟩
set_option maxRecDepth 20000 in
theorem lk_X8_72 : LkV RX8 72 yX2_push cX2_push 3 none 1 := ⟨(tt_mem 351 rfl rfl), (tt_mem 352 rfl rfl), (tt_mem 353 rfl rfl), (tt_mem 6 rfl rfl), (tt_mem 354 rfl rfl), by decide +kernel⟩
set_option maxRecDepth 20000 in
theorem lk_X2_22 : LkV RX2 22 yX2_dropOldest cX2_dropOldest 3 none 0 := ⟨(tt_mem 355 rfl rfl), (tt_mem 357 rfl rfl), (tt_sel 0 (q := (yX2_dropOldest, 2)) (by decide +kernel)), (tt_mem 6 rfl rfl), (tt_mem 358 rfl rfl), by decide +kernel⟩
set_option maxRecDepth 20000 in
theorem lk_X2_25 : LkV RX2 25 yX5_copyFrom cX5_copyFrom 2 none 1 := ⟨(tt_mem 359 rfl rfl), (tt_mem 360 rfl rfl), (tt_mem 361 rfl rfl), (tt_mem 2 rfl rfl), (tt_mem 362 rfl rfl), by decide +kernel⟩
set_option maxRecDepth 20000 in
theorem lk_X5_79 : LkV RX5 79 yX4_copyFrom cX4_copyFrom 2 none 1 := ⟨(tt_mem 363 rfl rfl), (tt_mem 364 rfl rfl), (tt_mem 365 rfl rfl), (tt_mem 3 rfl rfl), (tt_mem 366 rfl rfl), by decide +kernel⟩
set_option maxRecDepth 20000 in
theorem mc_X4_32 : MCp RX4 32 := ⟨(tt_mem 367 rfl rfl), (tt_mem 369 rfl rfl), (tt_mem 368 rfl rfl), (tt_mem 11 rfl rfl)⟩
set_option maxRecDepth 20000 in
theorem lk_X5_83 : LkV RX5 83 yX0_copyFrom cX0_copyFrom 2 none 1 := ⟨(tt_mem 370 rfl rfl), (tt_mem 371 rfl rfl), (tt_mem 372 rfl rfl), (tt_mem 4 rfl rfl), (tt_mem 373 rfl rfl), by decide +kernel⟩
set_option maxRecDepth 20000 in
theorem mc_X0_35 : MCp RX0 35 := ⟨(tt_mem 374 rfl rfl), (tt_mem 369 rfl rfl), (tt_mem 368 rfl rfl), (tt_mem 11 rfl rfl)⟩
set_option maxRecDepth 20000 in
theorem lk_X5_86 : LkV RX5 86 yX7_copyFrom cX7_copyFrom 2 none 1 := ⟨(tt_mem 375 rfl rfl), (tt_mem 376 rfl rfl), (tt_mem 377 rfl rfl), (tt_mem 5 rfl rfl), (tt_mem 378 rfl rfl), by decide +kernel⟩
set_option maxRecDepth 20000 in
theorem mc_X7_33 : MCp RX7 33 := ⟨(tt_mem 379 rfl rfl), (tt_mem 369 rfl rfl), (tt_mem 368 rfl rfl), (tt_mem 11 rfl rfl)⟩
set_option maxRecDepth 20000 in
theorem lk_X8_76 : LkV RX8 76 yX4_append cX4_append 5 (some .int) 4 := ⟨(tt_mem 380 rfl rfl), (tt_mem 381 rfl rfl), (tt_mem 382 rfl rfl), (tt_mem 3 rfl rfl), (tt_mem 383 rfl rfl), by decide +kernel⟩
set_option maxRecDepth 20000 in
theorem lk_L_18 : LkV RL 18 yX8_setHeat cX8_setHeat 2 (some .int) 1 := ⟨(tt_mem 384 rfl rfl), (tt_mem 385 rfl rfl), (tt_mem 386 rfl rfl), (tt_mem 1 rfl rfl), (tt_mem 387 rfl rfl), by decide +kernel⟩
set_option maxRecDepth 20000 in
theorem lk_X8_83 : LkV RX8 83 yX8_countDoomed cX8_countDoomed 1 (some .int) 0 := ⟨(tt_mem 388 rfl rfl), (tt_mem 390 rfl rfl), (tt_sel 1 (q := (yX8_countDoomed, 9)) (by decide +kernel)), (tt_mem 1 rfl rfl), (tt_mem 391 rfl rfl), by decide +kernel⟩
set_option maxRecDepth 20000 in
theorem lk_X8_277 : LkV RX8 277 yX8_forecastToEnd cX8_forecastToEnd 1 none 0 := ⟨(tt_mem 392 rfl rfl), (tt_mem 394 rfl rfl), (tt_sel 2 (q := (yX8_forecastToEnd, 9)) (by decide +kernel)), (tt_mem 1 rfl rfl), (tt_mem 395 rfl rfl), by decide +kernel⟩
set_option maxRecDepth 20000 in
theorem lk_X8_183 : LkV RX8 183 yX1_begin cX1_begin 2 none 1 := ⟨(tt_mem 396 rfl rfl), (tt_mem 397 rfl rfl), (tt_mem 398 rfl rfl), (tt_mem 8 rfl rfl), (tt_mem 399 rfl rfl), by decide +kernel⟩
set_option maxRecDepth 20000 in
theorem lk_X1_39 : LkV RX1 39 yX1_beginWith cX1_beginWith 6 none 4 := ⟨(tt_mem 400 rfl rfl), (tt_mem 401 rfl rfl), (tt_mem 402 rfl rfl), (tt_mem 8 rfl rfl), (tt_mem 403 rfl rfl), by decide +kernel⟩
set_option maxRecDepth 20000 in
theorem lk_X1_81 : LkV RX1 81 yX0_isOpen cX0_isOpen 2 (some .boolean) 1 := ⟨(tt_mem 405 rfl rfl), (tt_mem 406 rfl rfl), (tt_mem 407 rfl rfl), (tt_mem 4 rfl rfl), (tt_mem 408 rfl rfl), by decide +kernel⟩
set_option maxRecDepth 20000 in
theorem lk_X0_31 : LkV RX0 31 yX0_has cX0_has 2 (some .boolean) 1 := ⟨(tt_mem 409 rfl rfl), (tt_mem 410 rfl rfl), (tt_mem 411 rfl rfl), (tt_mem 4 rfl rfl), (tt_mem 412 rfl rfl), by decide +kernel⟩
set_option maxRecDepth 20000 in
theorem lk_X1_91 : LkV RX1 91 yX1_addRow cX1_addRow 6 none 4 := ⟨(tt_mem 413 rfl rfl), (tt_mem 415 rfl rfl), (tt_sel 3 (q := (yX1_addRow, 17)) (by decide +kernel)), (tt_mem 8 rfl rfl), (tt_mem 416 rfl rfl), by decide +kernel⟩
set_option maxRecDepth 20000 in
theorem lk_X1_101 : LkV RX1 101 yX4_has cX4_has 2 (some .boolean) 1 := ⟨(tt_mem 417 rfl rfl), (tt_mem 418 rfl rfl), (tt_mem 419 rfl rfl), (tt_mem 3 rfl rfl), (tt_mem 420 rfl rfl), by decide +kernel⟩
set_option maxRecDepth 20000 in
theorem lk_X1_106 : LkV RX1 106 yX0_has cX0_has 2 (some .boolean) 1 := ⟨(tt_mem 421 rfl rfl), (tt_mem 410 rfl rfl), (tt_mem 411 rfl rfl), (tt_mem 4 rfl rfl), (tt_mem 412 rfl rfl), by decide +kernel⟩
set_option maxRecDepth 20000 in
theorem lk_X8_274 : LkV RX8 274 yX1_passToEnd cX1_passToEnd 2 none 0 := ⟨(tt_mem 422 rfl rfl), (tt_mem 423 rfl rfl), (tt_mem 424 rfl rfl), (tt_mem 8 rfl rfl), (tt_mem 425 rfl rfl), by decide +kernel⟩
set_option maxRecDepth 20000 in
theorem lk_X1_114 : LkV RX1 114 yX1_passTick cX1_passTick 2 none 0 := ⟨(tt_mem 426 rfl rfl), (tt_mem 428 rfl rfl), (tt_sel 4 (q := (yX1_passTick, 17)) (by decide +kernel)), (tt_mem 8 rfl rfl), (tt_mem 429 rfl rfl), by decide +kernel⟩
set_option maxRecDepth 20000 in
theorem mm_X1_117 : MMn RX1 117 := ⟨(tt_mem 430 rfl rfl), (tt_mem 431 rfl rfl), (tt_mem 12 rfl rfl), (tt_mem 432 rfl rfl)⟩
set_option maxRecDepth 20000 in
theorem lk_X1_123 : LkV RX1 123 yX1_drawFor cX1_drawFor 4 none 1 := ⟨(tt_mem 433 rfl rfl), (tt_mem 435 rfl rfl), (tt_sel 5 (q := (yX1_drawFor, 17)) (by decide +kernel)), (tt_mem 8 rfl rfl), (tt_mem 436 rfl rfl), by decide +kernel⟩
set_option maxRecDepth 20000 in
theorem lk_X8_280 : LkV RX8 280 yX1_countSpoiled cX1_countSpoiled 3 (some .int) 0 := ⟨(tt_mem 437 rfl rfl), (tt_mem 438 rfl rfl), (tt_mem 439 rfl rfl), (tt_mem 8 rfl rfl), (tt_mem 440 rfl rfl), by decide +kernel⟩
set_option maxRecDepth 20000 in
theorem lk_L_23 : LkV RL 23 yX8_setMost cX8_setMost 2 (some .int) 1 := ⟨(tt_mem 441 rfl rfl), (tt_mem 442 rfl rfl), (tt_mem 443 rfl rfl), (tt_mem 1 rfl rfl), (tt_mem 444 rfl rfl), by decide +kernel⟩
set_option maxRecDepth 20000 in
theorem mm_X8_93 : MMn RX8 93 := ⟨(tt_mem 445 rfl rfl), (tt_mem 431 rfl rfl), (tt_mem 12 rfl rfl), (tt_mem 432 rfl rfl)⟩
set_option maxRecDepth 20000 in
theorem lk_L_27 : LkV RL 27 yX8_fall cX8_fall 2 (some .int) 1 := ⟨(tt_mem 446 rfl rfl), (tt_mem 447 rfl rfl), (tt_mem 448 rfl rfl), (tt_mem 1 rfl rfl), (tt_mem 449 rfl rfl), by decide +kernel⟩
set_option maxRecDepth 20000 in
theorem mm_X8_99 : MMx RX8 99 := ⟨(tt_mem 450 rfl rfl), (tt_mem 451 rfl rfl), (tt_mem 12 rfl rfl), (tt_mem 452 rfl rfl)⟩
set_option maxRecDepth 20000 in
theorem lk_L_31 : LkV RL 31 yX8_book cX8_book 5 (some .int) 3 := ⟨(tt_mem 453 rfl rfl), (tt_mem 454 rfl rfl), (tt_mem 455 rfl rfl), (tt_mem 1 rfl rfl), (tt_mem 456 rfl rfl), by decide +kernel⟩
set_option maxRecDepth 20000 in
theorem lk_X8_102 : LkV RX8 102 yX8_errorOfBooking cX8_errorOfBooking 4 (some .int) 3 := ⟨(tt_mem 457 rfl rfl), (tt_mem 459 rfl rfl), (tt_sel 6 (q := (yX8_errorOfBooking, 9)) (by decide +kernel)), (tt_mem 1 rfl rfl), (tt_mem 460 rfl rfl), by decide +kernel⟩
set_option maxRecDepth 20000 in
theorem lk_X8_154 : LkS RX8 154 yX8_isRobot cX8_isRobot 1 (some .boolean) 1 := ⟨(tt_mem 461 rfl rfl), (tt_mem 462 rfl rfl), rfl, (tt_mem 1 rfl rfl), (tt_mem 463 rfl rfl), by decide +kernel⟩
set_option maxRecDepth 20000 in
theorem lk_X8_157 : LkV RX8 157 yX4_has cX4_has 2 (some .boolean) 1 := ⟨(tt_mem 464 rfl rfl), (tt_mem 418 rfl rfl), (tt_mem 419 rfl rfl), (tt_mem 3 rfl rfl), (tt_mem 420 rfl rfl), by decide +kernel⟩
set_option maxRecDepth 20000 in
theorem lk_X8_128 : LkV RX8 128 yX5_canStart cX5_canStart 2 (some .boolean) 1 := ⟨(tt_mem 465 rfl rfl), (tt_mem 466 rfl rfl), (tt_mem 467 rfl rfl), (tt_mem 2 rfl rfl), (tt_mem 468 rfl rfl), by decide +kernel⟩
set_option maxRecDepth 20000 in
theorem lk_X8_137 : LkV RX8 137 yX3_reasonAgainst cX3_reasonAgainst 6 (some .int) 5 := ⟨(tt_mem 469 rfl rfl), (tt_mem 470 rfl rfl), (tt_mem 471 rfl rfl), (tt_mem 9 rfl rfl), (tt_mem 472 rfl rfl), by decide +kernel⟩
set_option maxRecDepth 20000 in
theorem lk_X3_22 : LkV RX3 22 yX3_forecastWithout cX3_forecastWithout 5 none 2 := ⟨(tt_mem 473 rfl rfl), (tt_mem 475 rfl rfl), (tt_sel 7 (q := (yX3_forecastWithout, 4)) (by decide +kernel)), (tt_mem 9 rfl rfl), (tt_mem 476 rfl rfl), by decide +kernel⟩
set_option maxRecDepth 20000 in
theorem lk_X3_45 : LkV RX3 45 yX1_beginWith cX1_beginWith 6 none 4 := ⟨(tt_mem 477 rfl rfl), (tt_mem 401 rfl rfl), (tt_mem 402 rfl rfl), (tt_mem 8 rfl rfl), (tt_mem 403 rfl rfl), by decide +kernel⟩
set_option maxRecDepth 20000 in
theorem lk_X3_49 : LkV RX3 49 yX1_passToEnd cX1_passToEnd 2 none 0 := ⟨(tt_mem 478 rfl rfl), (tt_mem 423 rfl rfl), (tt_mem 424 rfl rfl), (tt_mem 8 rfl rfl), (tt_mem 425 rfl rfl), by decide +kernel⟩
set_option maxRecDepth 20000 in
theorem lk_X3_26 : LkV RX3 26 yX3_reasonNow cX3_reasonNow 7 (some .int) 5 := ⟨(tt_mem 479 rfl rfl), (tt_mem 481 rfl rfl), (tt_sel 8 (q := (yX3_reasonNow, 4)) (by decide +kernel)), (tt_mem 9 rfl rfl), (tt_mem 482 rfl rfl), by decide +kernel⟩
set_option maxRecDepth 20000 in
theorem lk_X3_69 : LkV RX3 69 yX4_lastBusy cX4_lastBusy 3 (some .int) 2 := ⟨(tt_mem 483 rfl rfl), (tt_mem 484 rfl rfl), (tt_mem 485 rfl rfl), (tt_mem 3 rfl rfl), (tt_mem 486 rfl rfl), by decide +kernel⟩
set_option maxRecDepth 20000 in
theorem lk_X4_28 : LkV RX4 28 yX4_has cX4_has 2 (some .boolean) 1 := ⟨(tt_mem 487 rfl rfl), (tt_mem 418 rfl rfl), (tt_mem 419 rfl rfl), (tt_mem 3 rfl rfl), (tt_mem 420 rfl rfl), by decide +kernel⟩
set_option maxRecDepth 20000 in
theorem lk_X3_74 : LkV RX3 74 yX5_firstMeeting cX5_firstMeeting 6 (some .int) 4 := ⟨(tt_mem 488 rfl rfl), (tt_mem 489 rfl rfl), (tt_mem 490 rfl rfl), (tt_mem 2 rfl rfl), (tt_mem 491 rfl rfl), by decide +kernel⟩
set_option maxRecDepth 20000 in
theorem lk_X5_48 : LkV RX5 48 yX0_keepsBusy cX0_keepsBusy 3 (some .boolean) 2 := ⟨(tt_mem 492 rfl rfl), (tt_mem 493 rfl rfl), (tt_mem 494 rfl rfl), (tt_mem 4 rfl rfl), (tt_mem 495 rfl rfl), by decide +kernel⟩
set_option maxRecDepth 20000 in
theorem lk_X5_59 : LkV RX5 59 yX4_lastBusy cX4_lastBusy 3 (some .int) 2 := ⟨(tt_mem 496 rfl rfl), (tt_mem 484 rfl rfl), (tt_mem 485 rfl rfl), (tt_mem 3 rfl rfl), (tt_mem 486 rfl rfl), by decide +kernel⟩
set_option maxRecDepth 20000 in
theorem lk_X3_81 : LkV RX3 81 yX1_rowOf cX1_rowOf 3 (some .int) 1 := ⟨(tt_mem 497 rfl rfl), (tt_mem 498 rfl rfl), (tt_mem 499 rfl rfl), (tt_mem 8 rfl rfl), (tt_mem 500 rfl rfl), by decide +kernel⟩
set_option maxRecDepth 20000 in
theorem lk_X3_87 : LkV RX3 87 yX3_reasonByOthers cX3_reasonByOthers 4 (some .int) 1 := ⟨(tt_mem 501 rfl rfl), (tt_mem 503 rfl rfl), (tt_sel 9 (q := (yX3_reasonByOthers, 4)) (by decide +kernel)), (tt_mem 9 rfl rfl), (tt_mem 504 rfl rfl), by decide +kernel⟩
set_option maxRecDepth 20000 in
theorem lk_X3_90 : LkV RX3 90 yX3_wasDoomed cX3_wasDoomed 2 (some .boolean) 1 := ⟨(tt_mem 505 rfl rfl), (tt_mem 507 rfl rfl), (tt_sel 10 (q := (yX3_wasDoomed, 4)) (by decide +kernel)), (tt_mem 9 rfl rfl), (tt_mem 508 rfl rfl), by decide +kernel⟩
set_option maxRecDepth 20000 in
theorem lk_X8_141 : LkS RX8 141 yX8_errorOf cX8_errorOf 1 (some .int) 1 := ⟨(tt_mem 509 rfl rfl), (tt_mem 510 rfl rfl), rfl, (tt_mem 1 rfl rfl), (tt_mem 511 rfl rfl), by decide +kernel⟩
set_option maxRecDepth 20000 in
theorem lk_X8_110 : LkV RX8 110 yX0_append cX0_append 4 (some .int) 3 := ⟨(tt_mem 512 rfl rfl), (tt_mem 513 rfl rfl), (tt_mem 514 rfl rfl), (tt_mem 4 rfl rfl), (tt_mem 515 rfl rfl), by decide +kernel⟩
set_option maxRecDepth 20000 in
theorem lk_L_36 : LkV RL 36 yX8_cancel cX8_cancel 2 (some .int) 1 := ⟨(tt_mem 516 rfl rfl), (tt_mem 517 rfl rfl), (tt_mem 518 rfl rfl), (tt_mem 1 rfl rfl), (tt_mem 519 rfl rfl), by decide +kernel⟩
set_option maxRecDepth 20000 in
theorem lk_X8_114 : LkV RX8 114 yX0_has cX0_has 2 (some .boolean) 1 := ⟨(tt_mem 520 rfl rfl), (tt_mem 410 rfl rfl), (tt_mem 411 rfl rfl), (tt_mem 4 rfl rfl), (tt_mem 412 rfl rfl), by decide +kernel⟩
set_option maxRecDepth 20000 in
theorem lk_X8_118 : LkV RX8 118 yX0_isOpen cX0_isOpen 2 (some .boolean) 1 := ⟨(tt_mem 521 rfl rfl), (tt_mem 406 rfl rfl), (tt_mem 407 rfl rfl), (tt_mem 4 rfl rfl), (tt_mem 408 rfl rfl), by decide +kernel⟩
set_option maxRecDepth 20000 in
theorem lk_X8_125 : LkV RX8 125 yX8_tryWishes cX8_tryWishes 10 (some .int) 0 := ⟨(tt_mem 522 rfl rfl), (tt_mem 524 rfl rfl), (tt_sel 11 (q := (yX8_tryWishes, 9)) (by decide +kernel)), (tt_mem 1 rfl rfl), (tt_mem 525 rfl rfl), by decide +kernel⟩
set_option maxRecDepth 20000 in
theorem lk_X8_174 : LkV RX8 174 yX7_has cX7_has 2 (some .boolean) 1 := ⟨(tt_mem 526 rfl rfl), (tt_mem 527 rfl rfl), (tt_mem 528 rfl rfl), (tt_mem 5 rfl rfl), (tt_mem 529 rfl rfl), by decide +kernel⟩
set_option maxRecDepth 20000 in
theorem lk_X8_159 : LkV RX8 159 yX3_firstFit cX3_firstFit 10 (some .int) 6 := ⟨(tt_mem 530 rfl rfl), (tt_mem 531 rfl rfl), (tt_mem 532 rfl rfl), (tt_mem 9 rfl rfl), (tt_mem 533 rfl rfl), by decide +kernel⟩
set_option maxRecDepth 20000 in
theorem mm_X3_36 : MMx RX3 36 := ⟨(tt_mem 534 rfl rfl), (tt_mem 451 rfl rfl), (tt_mem 12 rfl rfl), (tt_mem 452 rfl rfl)⟩
set_option maxRecDepth 20000 in
theorem mm_X3_42 : MMn RX3 42 := ⟨(tt_mem 535 rfl rfl), (tt_mem 431 rfl rfl), (tt_mem 12 rfl rfl), (tt_mem 432 rfl rfl)⟩
set_option maxRecDepth 20000 in
theorem lk_X8_176 : LkV RX8 176 yX7_takeOut cX7_takeOut 3 none 1 := ⟨(tt_mem 536 rfl rfl), (tt_mem 537 rfl rfl), (tt_mem 538 rfl rfl), (tt_mem 5 rfl rfl), (tt_mem 539 rfl rfl), by decide +kernel⟩
set_option maxRecDepth 20000 in
theorem lk_X7_25 : LkV RX7 25 yX7_has cX7_has 2 (some .boolean) 1 := ⟨(tt_mem 540 rfl rfl), (tt_mem 527 rfl rfl), (tt_mem 528 rfl rfl), (tt_mem 5 rfl rfl), (tt_mem 529 rfl rfl), by decide +kernel⟩
set_option maxRecDepth 20000 in
theorem lk_L_40 : LkV RL 40 yX8_move cX8_move 8 (some .int) 2 := ⟨(tt_mem 541 rfl rfl), (tt_mem 542 rfl rfl), (tt_mem 543 rfl rfl), (tt_mem 1 rfl rfl), (tt_mem 544 rfl rfl), by decide +kernel⟩
set_option maxRecDepth 20000 in
theorem lk_L_45 : LkV RL 45 yX8_repair cX8_repair 4 (some .int) 0 := ⟨(tt_mem 545 rfl rfl), (tt_mem 546 rfl rfl), (tt_mem 547 rfl rfl), (tt_mem 1 rfl rfl), (tt_mem 548 rfl rfl), by decide +kernel⟩
set_option maxRecDepth 20000 in
theorem lk_X8_148 : LkV RX8 148 yX8_firstToRepair cX8_firstToRepair 3 (some .int) 0 := ⟨(tt_mem 549 rfl rfl), (tt_mem 551 rfl rfl), (tt_sel 12 (q := (yX8_firstToRepair, 9)) (by decide +kernel)), (tt_mem 1 rfl rfl), (tt_mem 552 rfl rfl), by decide +kernel⟩
set_option maxRecDepth 20000 in
theorem lk_X8_286 : LkV RX8 286 yX0_stateOf cX0_stateOf 2 (some .int) 1 := ⟨(tt_mem 553 rfl rfl), (tt_mem 554 rfl rfl), (tt_mem 555 rfl rfl), (tt_mem 4 rfl rfl), (tt_mem 556 rfl rfl), by decide +kernel⟩
set_option maxRecDepth 20000 in
theorem lk_X8_300 : LkV RX8 300 yX8_wasRepaired cX8_wasRepaired 2 (some .boolean) 1 := ⟨(tt_mem 557 rfl rfl), (tt_mem 559 rfl rfl), (tt_sel 13 (q := (yX8_wasRepaired, 9)) (by decide +kernel)), (tt_mem 1 rfl rfl), (tt_mem 560 rfl rfl), by decide +kernel⟩
set_option maxRecDepth 20000 in
theorem lk_X8_151 : LkV RX8 151 yX8_moveLaterOrCancel cX8_moveLaterOrCancel 4 (some .boolean) 1 := ⟨(tt_mem 561 rfl rfl), (tt_mem 563 rfl rfl), (tt_sel 14 (q := (yX8_moveLaterOrCancel, 9)) (by decide +kernel)), (tt_mem 1 rfl rfl), (tt_mem 564 rfl rfl), by decide +kernel⟩
set_option maxRecDepth 20000 in
theorem lk_L_50 : LkV RL 50 yX8_wish cX8_wish 5 (some .int) 3 := ⟨(tt_mem 565 rfl rfl), (tt_mem 566 rfl rfl), (tt_mem 567 rfl rfl), (tt_mem 1 rfl rfl), (tt_mem 568 rfl rfl), by decide +kernel⟩
set_option maxRecDepth 20000 in
theorem lk_X8_173 : LkV RX8 173 yX7_append cX7_append 4 (some .int) 3 := ⟨(tt_mem 569 rfl rfl), (tt_mem 570 rfl rfl), (tt_mem 571 rfl rfl), (tt_mem 5 rfl rfl), (tt_mem 572 rfl rfl), by decide +kernel⟩
set_option maxRecDepth 20000 in
theorem lk_L_54 : LkV RL 54 yX8_unwish cX8_unwish 3 (some .int) 1 := ⟨(tt_mem 573 rfl rfl), (tt_mem 574 rfl rfl), (tt_mem 575 rfl rfl), (tt_mem 1 rfl rfl), (tt_mem 576 rfl rfl), by decide +kernel⟩
set_option maxRecDepth 20000 in
theorem lk_L_58 : LkV RL 58 yX8_pass cX8_pass 2 (some .int) 1 := ⟨(tt_mem 577 rfl rfl), (tt_mem 578 rfl rfl), (tt_mem 579 rfl rfl), (tt_mem 1 rfl rfl), (tt_mem 580 rfl rfl), by decide +kernel⟩
set_option maxRecDepth 20000 in
theorem lk_X8_186 : LkV RX8 186 yX1_passTicks cX1_passTicks 3 none 1 := ⟨(tt_mem 581 rfl rfl), (tt_mem 582 rfl rfl), (tt_mem 583 rfl rfl), (tt_mem 8 rfl rfl), (tt_mem 584 rfl rfl), by decide +kernel⟩
set_option maxRecDepth 20000 in
theorem lk_X8_189 : LkV RX8 189 yX8_takeOver cX8_takeOver 5 (some .int) 1 := ⟨(tt_mem 585 rfl rfl), (tt_mem 587 rfl rfl), (tt_sel 15 (q := (yX8_takeOver, 9)) (by decide +kernel)), (tt_mem 1 rfl rfl), (tt_mem 588 rfl rfl), by decide +kernel⟩
set_option maxRecDepth 20000 in
theorem lk_X8_308 : LkV RX8 308 yX7_dropUntil cX7_dropUntil 4 (some .int) 1 := ⟨(tt_mem 589 rfl rfl), (tt_mem 590 rfl rfl), (tt_mem 591 rfl rfl), (tt_mem 5 rfl rfl), (tt_mem 592 rfl rfl), by decide +kernel⟩
set_option maxRecDepth 20000 in
theorem lk_X7_29 : LkV RX7 29 yX7_takeOut cX7_takeOut 3 none 1 := ⟨(tt_mem 593 rfl rfl), (tt_mem 537 rfl rfl), (tt_mem 538 rfl rfl), (tt_mem 5 rfl rfl), (tt_mem 539 rfl rfl), by decide +kernel⟩
set_option maxRecDepth 20000 in
theorem lk_L_62 : LkV RL 62 yX8_type cX8_type 2 (some .int) 1 := ⟨(tt_mem 594 rfl rfl), (tt_mem 595 rfl rfl), (tt_mem 596 rfl rfl), (tt_mem 1 rfl rfl), (tt_mem 597 rfl rfl), by decide +kernel⟩
set_option maxRecDepth 20000 in
theorem lk_X8_196 : LkV RX8 196 yX6_append cX6_append 2 (some .int) 1 := ⟨(tt_mem 598 rfl rfl), (tt_mem 599 rfl rfl), (tt_mem 600 rfl rfl), (tt_mem 7 rfl rfl), (tt_mem 601 rfl rfl), by decide +kernel⟩
set_option maxRecDepth 20000 in
theorem lk_L_67 : LkV RL 67 yX8_clearText cX8_clearText 2 (some .int) 0 := ⟨(tt_mem 602 rfl rfl), (tt_mem 603 rfl rfl), (tt_mem 604 rfl rfl), (tt_mem 1 rfl rfl), (tt_mem 605 rfl rfl), by decide +kernel⟩
set_option maxRecDepth 20000 in
theorem lk_L_71 : LkV RL 71 yX8_bookAll cX8_bookAll 4 (some .int) 0 := ⟨(tt_mem 606 rfl rfl), (tt_mem 607 rfl rfl), (tt_mem 608 rfl rfl), (tt_mem 1 rfl rfl), (tt_mem 609 rfl rfl), by decide +kernel⟩
set_option maxRecDepth 20000 in
theorem lk_X8_199 : LkV RX8 199 yX6_read cX6_read 2 (some .int) 0 := ⟨(tt_mem 610 rfl rfl), (tt_mem 611 rfl rfl), (tt_mem 612 rfl rfl), (tt_mem 7 rfl rfl), (tt_mem 613 rfl rfl), by decide +kernel⟩
set_option maxRecDepth 20000 in
theorem lk_X6_35 : LkV RX6 35 yX6_readEntry cX6_readEntry 2 (some .boolean) 1 := ⟨(tt_mem 614 rfl rfl), (tt_mem 616 rfl rfl), (tt_sel 16 (q := (yX6_readEntry, 7)) (by decide +kernel)), (tt_mem 7 rfl rfl), (tt_mem 617 rfl rfl), by decide +kernel⟩
set_option maxRecDepth 20000 in
theorem lk_X6_43 : LkV RX6 43 yX6_isDigit cX6_isDigit 1 (some .boolean) 0 := ⟨(tt_mem 618 rfl rfl), (tt_mem 620 rfl rfl), (tt_sel 17 (q := (yX6_isDigit, 7)) (by decide +kernel)), (tt_mem 7 rfl rfl), (tt_mem 621 rfl rfl), by decide +kernel⟩
set_option maxRecDepth 20000 in
theorem lk_X6_54 : LkV RX6 54 yX6_current cX6_current 1 (some .char) 0 := ⟨(tt_mem 622 rfl rfl), (tt_mem 624 rfl rfl), (tt_sel 18 (q := (yX6_current, 7)) (by decide +kernel)), (tt_mem 7 rfl rfl), (tt_mem 625 rfl rfl), by decide +kernel⟩
set_option maxRecDepth 20000 in
theorem lk_X6_47 : LkV RX6 47 yX6_takeDigit cX6_takeDigit 2 (some .int) 0 := ⟨(tt_mem 626 rfl rfl), (tt_mem 628 rfl rfl), (tt_sel 19 (q := (yX6_takeDigit, 7)) (by decide +kernel)), (tt_mem 7 rfl rfl), (tt_mem 629 rfl rfl), by decide +kernel⟩
set_option maxRecDepth 20000 in
theorem lk_X6_39 : LkV RX6 39 yX6_skip cX6_skip 2 (some .boolean) 1 := ⟨(tt_mem 630 rfl rfl), (tt_mem 632 rfl rfl), (tt_sel 20 (q := (yX6_skip, 7)) (by decide +kernel)), (tt_mem 7 rfl rfl), (tt_mem 633 rfl rfl), by decide +kernel⟩
set_option maxRecDepth 20000 in
theorem lk_X6_51 : LkV RX6 51 yX6_takeStart cX6_takeStart 3 (some .int) 0 := ⟨(tt_mem 634 rfl rfl), (tt_mem 636 rfl rfl), (tt_sel 21 (q := (yX6_takeStart, 7)) (by decide +kernel)), (tt_mem 7 rfl rfl), (tt_mem 637 rfl rfl), by decide +kernel⟩
set_option maxRecDepth 20000 in
theorem lk_X8_202 : LkV RX8 202 yX5_copyFrom cX5_copyFrom 2 none 1 := ⟨(tt_mem 638 rfl rfl), (tt_mem 360 rfl rfl), (tt_mem 361 rfl rfl), (tt_mem 2 rfl rfl), (tt_mem 362 rfl rfl), by decide +kernel⟩
set_option maxRecDepth 20000 in
theorem lk_L_75 : LkV RL 75 yX8_undo cX8_undo 1 (some .int) 0 := ⟨(tt_mem 639 rfl rfl), (tt_mem 640 rfl rfl), (tt_mem 641 rfl rfl), (tt_mem 1 rfl rfl), (tt_mem 642 rfl rfl), by decide +kernel⟩
set_option maxRecDepth 20000 in
theorem lk_X8_212 : LkV RX8 212 yX2_popInto cX2_popInto 3 none 1 := ⟨(tt_mem 643 rfl rfl), (tt_mem 644 rfl rfl), (tt_mem 645 rfl rfl), (tt_mem 6 rfl rfl), (tt_mem 646 rfl rfl), by decide +kernel⟩
set_option maxRecDepth 20000 in
theorem lk_L_79 : LkV RL 79 yX8_keep cX8_keep 1 (some .int) 0 := ⟨(tt_mem 647 rfl rfl), (tt_mem 648 rfl rfl), (tt_mem 649 rfl rfl), (tt_mem 1 rfl rfl), (tt_mem 650 rfl rfl), by decide +kernel⟩
set_option maxRecDepth 20000 in
theorem lk_L_83 : LkV RL 83 yX8_restore cX8_restore 1 (some .int) 0 := ⟨(tt_mem 651 rfl rfl), (tt_mem 652 rfl rfl), (tt_mem 653 rfl rfl), (tt_mem 1 rfl rfl), (tt_mem 654 rfl rfl), by decide +kernel⟩
set_option maxRecDepth 20000 in
theorem lk_L_87 : LkV RL 87 yX8_recipe cX8_recipe 3 (some .int) 2 := ⟨(tt_mem 655 rfl rfl), (tt_mem 656 rfl rfl), (tt_mem 657 rfl rfl), (tt_mem 1 rfl rfl), (tt_mem 658 rfl rfl), by decide +kernel⟩
set_option maxRecDepth 20000 in
theorem lk_X8_227 : LkV RX8 227 yX0_doneOfRecipe cX0_doneOfRecipe 4 (some .int) 1 := ⟨(tt_mem 659 rfl rfl), (tt_mem 660 rfl rfl), (tt_mem 661 rfl rfl), (tt_mem 4 rfl rfl), (tt_mem 662 rfl rfl), by decide +kernel⟩
set_option maxRecDepth 20000 in
theorem lk_L_91 : LkV RL 91 yX8_robot cX8_robot 3 (some .int) 2 := ⟨(tt_mem 663 rfl rfl), (tt_mem 664 rfl rfl), (tt_mem 665 rfl rfl), (tt_mem 1 rfl rfl), (tt_mem 666 rfl rfl), by decide +kernel⟩
set_option maxRecDepth 20000 in
theorem lk_X8_230 : LkV RX8 230 yX0_ofRobot cX0_ofRobot 5 (some .int) 2 := ⟨(tt_mem 667 rfl rfl), (tt_mem 668 rfl rfl), (tt_mem 669 rfl rfl), (tt_mem 4 rfl rfl), (tt_mem 670 rfl rfl), by decide +kernel⟩
set_option maxRecDepth 20000 in
theorem lk_X8_233 : LkV RX8 233 yX5_isBusyIn cX5_isBusyIn 3 (some .boolean) 2 := ⟨(tt_mem 671 rfl rfl), (tt_mem 672 rfl rfl), (tt_mem 673 rfl rfl), (tt_mem 2 rfl rfl), (tt_mem 674 rfl rfl), by decide +kernel⟩
set_option maxRecDepth 20000 in
theorem lk_X5_63 : LkV RX5 63 yX5_firstMeeting cX5_firstMeeting 6 (some .int) 4 := ⟨(tt_mem 675 rfl rfl), (tt_mem 489 rfl rfl), (tt_mem 490 rfl rfl), (tt_mem 2 rfl rfl), (tt_mem 491 rfl rfl), by decide +kernel⟩
set_option maxRecDepth 20000 in
theorem lk_X8_237 : LkV RX8 237 yX5_firstFreeTick cX5_firstFreeTick 3 (some .int) 1 := ⟨(tt_mem 676 rfl rfl), (tt_mem 677 rfl rfl), (tt_mem 678 rfl rfl), (tt_mem 2 rfl rfl), (tt_mem 679 rfl rfl), by decide +kernel⟩
set_option maxRecDepth 20000 in
theorem lk_X5_67 : LkV RX5 67 yX5_isBusyIn cX5_isBusyIn 3 (some .boolean) 2 := ⟨(tt_mem 680 rfl rfl), (tt_mem 672 rfl rfl), (tt_mem 673 rfl rfl), (tt_mem 2 rfl rfl), (tt_mem 674 rfl rfl), by decide +kernel⟩
set_option maxRecDepth 20000 in
theorem lk_L_95 : LkV RL 95 yX8_booking cX8_booking 4 (some .int) 2 := ⟨(tt_mem 681 rfl rfl), (tt_mem 682 rfl rfl), (tt_mem 683 rfl rfl), (tt_mem 1 rfl rfl), (tt_mem 684 rfl rfl), by decide +kernel⟩
set_option maxRecDepth 20000 in
theorem lk_X8_243 : LkV RX8 243 yX8_stateInTheEnd cX8_stateInTheEnd 3 (some .int) 1 := ⟨(tt_mem 685 rfl rfl), (tt_mem 687 rfl rfl), (tt_sel 22 (q := (yX8_stateInTheEnd, 9)) (by decide +kernel)), (tt_mem 1 rfl rfl), (tt_mem 688 rfl rfl), by decide +kernel⟩
set_option maxRecDepth 20000 in
theorem lk_X8_283 : LkV RX8 283 yX1_rowOf cX1_rowOf 3 (some .int) 1 := ⟨(tt_mem 689 rfl rfl), (tt_mem 498 rfl rfl), (tt_mem 499 rfl rfl), (tt_mem 8 rfl rfl), (tt_mem 500 rfl rfl), by decide +kernel⟩
set_option maxRecDepth 20000 in
theorem lk_X8_246 : LkV RX8 246 yX8_tickOfSpoiling cX8_tickOfSpoiling 3 (some .int) 1 := ⟨(tt_mem 690 rfl rfl), (tt_mem 692 rfl rfl), (tt_sel 23 (q := (yX8_tickOfSpoiling, 9)) (by decide +kernel)), (tt_mem 1 rfl rfl), (tt_mem 693 rfl rfl), by decide +kernel⟩
set_option maxRecDepth 20000 in
theorem lk_X8_249 : LkV RX8 249 yX8_leastSpare cX8_leastSpare 3 (some .int) 1 := ⟨(tt_mem 694 rfl rfl), (tt_mem 696 rfl rfl), (tt_sel 24 (q := (yX8_leastSpare, 9)) (by decide +kernel)), (tt_mem 1 rfl rfl), (tt_mem 697 rfl rfl), by decide +kernel⟩
set_option maxRecDepth 20000 in
theorem lk_L_99 : LkV RL 99 yX8_wishTold cX8_wishTold 4 (some .int) 2 := ⟨(tt_mem 698 rfl rfl), (tt_mem 699 rfl rfl), (tt_mem 700 rfl rfl), (tt_mem 1 rfl rfl), (tt_mem 701 rfl rfl), by decide +kernel⟩
set_option maxRecDepth 20000 in
theorem lk_L_103 : LkV RL 103 yX8_pressureIn cX8_pressureIn 2 (some .int) 1 := ⟨(tt_mem 702 rfl rfl), (tt_mem 703 rfl rfl), (tt_mem 704 rfl rfl), (tt_mem 1 rfl rfl), (tt_mem 705 rfl rfl), by decide +kernel⟩
set_option maxRecDepth 20000 in
theorem lk_L_107 : LkV RL 107 yX8_lowestIn cX8_lowestIn 2 (some .int) 1 := ⟨(tt_mem 706 rfl rfl), (tt_mem 707 rfl rfl), (tt_mem 708 rfl rfl), (tt_mem 1 rfl rfl), (tt_mem 709 rfl rfl), by decide +kernel⟩
set_option maxRecDepth 20000 in
theorem lk_L_111 : LkV RL 111 yX8_why cX8_why 6 (some .int) 4 := ⟨(tt_mem 710 rfl rfl), (tt_mem 711 rfl rfl), (tt_mem 712 rfl rfl), (tt_mem 1 rfl rfl), (tt_mem 713 rfl rfl), by decide +kernel⟩
set_option maxRecDepth 20000 in
theorem lk_L_115 : LkV RL 115 yX8_earliest cX8_earliest 4 (some .int) 3 := ⟨(tt_mem 714 rfl rfl), (tt_mem 715 rfl rfl), (tt_mem 716 rfl rfl), (tt_mem 1 rfl rfl), (tt_mem 717 rfl rfl), by decide +kernel⟩
set_option maxRecDepth 20000 in
theorem lk_L_119 : LkV RL 119 yX8_count cX8_count 2 (some .int) 1 := ⟨(tt_mem 718 rfl rfl), (tt_mem 719 rfl rfl), (tt_mem 720 rfl rfl), (tt_mem 1 rfl rfl), (tt_mem 721 rfl rfl), by decide +kernel⟩
set_option maxRecDepth 20000 in
theorem lk_X8_266 : LkV RX8 266 yX0_inState cX0_inState 4 (some .int) 1 := ⟨(tt_mem 722 rfl rfl), (tt_mem 723 rfl rfl), (tt_mem 724 rfl rfl), (tt_mem 4 rfl rfl), (tt_mem 725 rfl rfl), by decide +kernel⟩
set_option maxRecDepth 20000 in
theorem lk_L_17 : LkV RL 17 yX9_addRecipe cX9_addRecipe 7 (some .int) 4 := ⟨(tt_mem 805 rfl rfl), (tt_mem 806 rfl rfl), (tt_mem 807 rfl rfl), (tt_mem 10 rfl rfl), (tt_mem 808 rfl rfl), by decide +kernel⟩
set_option maxRecDepth 20000 in
theorem lk_X9_52 : LkS RX9 52 yX9_in cX9_in 3 (some .boolean) 3 := ⟨(tt_mem 809 rfl rfl), (tt_mem 810 rfl rfl), rfl, (tt_mem 10 rfl rfl), (tt_mem 811 rfl rfl), by decide +kernel⟩
set_option maxRecDepth 20000 in
theorem lk_X9_107 : LkV RX9 107 yX9_record cX9_record 2 none 0 := ⟨(tt_mem 812 rfl rfl), (tt_mem 814 rfl rfl), (tt_sel 25 (q := (yX9_record, 24)) (by decide +kernel)), (tt_mem 10 rfl rfl), (tt_mem 815 rfl rfl), by decide +kernel⟩
set_option maxRecDepth 20000 in
theorem lk_L_22 : LkV RL 22 yX9_setHeat cX9_setHeat 2 (some .int) 1 := ⟨(tt_mem 816 rfl rfl), (tt_mem 817 rfl rfl), (tt_mem 818 rfl rfl), (tt_mem 10 rfl rfl), (tt_mem 819 rfl rfl), by decide +kernel⟩
set_option maxRecDepth 20000 in
theorem lk_X9_110 : LkV RX9 110 yX9_doomed cX9_doomed 3 (some .int) 0 := ⟨(tt_mem 820 rfl rfl), (tt_mem 822 rfl rfl), (tt_sel 26 (q := (yX9_doomed, 24)) (by decide +kernel)), (tt_mem 10 rfl rfl), (tt_mem 823 rfl rfl), by decide +kernel⟩
set_option maxRecDepth 20000 in
theorem lk_X9_87 : LkV RX9 87 yX9_forecast cX9_forecast 2 none 0 := ⟨(tt_mem 824 rfl rfl), (tt_mem 826 rfl rfl), (tt_sel 27 (q := (yX9_forecast, 24)) (by decide +kernel)), (tt_mem 10 rfl rfl), (tt_mem 827 rfl rfl), by decide +kernel⟩
set_option maxRecDepth 20000 in
theorem lk_X9_80 : LkV RX9 80 yX9_begins cX9_begins 2 none 0 := ⟨(tt_mem 828 rfl rfl), (tt_mem 830 rfl rfl), (tt_sel 28 (q := (yX9_begins, 24)) (by decide +kernel)), (tt_mem 10 rfl rfl), (tt_mem 831 rfl rfl), by decide +kernel⟩
set_option maxRecDepth 20000 in
theorem lk_X9_56 : LkV RX9 56 yX9_of cX9_of 3 (some .int) 2 := ⟨(tt_mem 832 rfl rfl), (tt_mem 834 rfl rfl), (tt_sel 29 (q := (yX9_of, 24)) (by decide +kernel)), (tt_mem 10 rfl rfl), (tt_mem 835 rfl rfl), by decide +kernel⟩
set_option maxRecDepth 20000 in
theorem lk_X9_83 : LkV RX9 83 yX9_foresees cX9_foresees 3 none 1 := ⟨(tt_mem 837 rfl rfl), (tt_mem 839 rfl rfl), (tt_sel 30 (q := (yX9_foresees, 24)) (by decide +kernel)), (tt_mem 10 rfl rfl), (tt_mem 840 rfl rfl), by decide +kernel⟩
set_option maxRecDepth 20000 in
theorem lk_X9_73 : LkV RX9 73 yX9_asks cX9_asks 7 none 4 := ⟨(tt_mem 841 rfl rfl), (tt_mem 843 rfl rfl), (tt_sel 31 (q := (yX9_asks, 24)) (by decide +kernel)), (tt_mem 10 rfl rfl), (tt_mem 844 rfl rfl), by decide +kernel⟩
set_option maxRecDepth 20000 in
theorem lk_X9_63 : LkV RX9 63 yX9_ofRecipe cX9_ofRecipe 3 (some .int) 2 := ⟨(tt_mem 845 rfl rfl), (tt_mem 847 rfl rfl), (tt_sel 32 (q := (yX9_ofRecipe, 24)) (by decide +kernel)), (tt_mem 10 rfl rfl), (tt_mem 848 rfl rfl), by decide +kernel⟩
set_option maxRecDepth 20000 in
theorem lk_L_26 : LkV RL 26 yX9_setMost cX9_setMost 2 (some .int) 1 := ⟨(tt_mem 849 rfl rfl), (tt_mem 850 rfl rfl), (tt_mem 851 rfl rfl), (tt_mem 10 rfl rfl), (tt_mem 852 rfl rfl), by decide +kernel⟩
set_option maxRecDepth 20000 in
theorem lk_L_30 : LkV RL 30 yX9_fall cX9_fall 3 (some .int) 1 := ⟨(tt_mem 853 rfl rfl), (tt_mem 854 rfl rfl), (tt_mem 855 rfl rfl), (tt_mem 10 rfl rfl), (tt_mem 856 rfl rfl), by decide +kernel⟩
set_option maxRecDepth 20000 in
theorem lk_L_35 : LkV RL 35 yX9_book cX9_book 5 (some .int) 3 := ⟨(tt_mem 857 rfl rfl), (tt_mem 858 rfl rfl), (tt_mem 859 rfl rfl), (tt_mem 10 rfl rfl), (tt_mem 860 rfl rfl), by decide +kernel⟩
set_option maxRecDepth 20000 in
theorem lk_X9_127 : LkV RX9 127 yX9_wrong cX9_wrong 5 (some .int) 3 := ⟨(tt_mem 861 rfl rfl), (tt_mem 863 rfl rfl), (tt_sel 33 (q := (yX9_wrong, 24)) (by decide +kernel)), (tt_mem 10 rfl rfl), (tt_mem 864 rfl rfl), by decide +kernel⟩
set_option maxRecDepth 20000 in
theorem lk_X9_114 : LkS RX9 114 yX9_noRobot cX9_noRobot 1 (some .boolean) 1 := ⟨(tt_mem 865 rfl rfl), (tt_mem 866 rfl rfl), rfl, (tt_mem 10 rfl rfl), (tt_mem 867 rfl rfl), by decide +kernel⟩
set_option maxRecDepth 20000 in
theorem lk_X9_118 : LkV RX9 118 yX9_noRecipe cX9_noRecipe 2 (some .boolean) 1 := ⟨(tt_mem 868 rfl rfl), (tt_mem 870 rfl rfl), (tt_sel 34 (q := (yX9_noRecipe, 24)) (by decide +kernel)), (tt_mem 10 rfl rfl), (tt_mem 871 rfl rfl), by decide +kernel⟩
set_option maxRecDepth 20000 in
theorem lk_X9_121 : LkV RX9 121 yX9_isStart cX9_isStart 2 (some .boolean) 1 := ⟨(tt_mem 872 rfl rfl), (tt_mem 874 rfl rfl), (tt_sel 35 (q := (yX9_isStart, 24)) (by decide +kernel)), (tt_mem 10 rfl rfl), (tt_mem 875 rfl rfl), by decide +kernel⟩
set_option maxRecDepth 20000 in
theorem lk_X9_124 : LkV RX9 124 yX9_bases cX9_bases 3 none 1 := ⟨(tt_mem 876 rfl rfl), (tt_mem 878 rfl rfl), (tt_sel 36 (q := (yX9_bases, 24)) (by decide +kernel)), (tt_mem 10 rfl rfl), (tt_mem 879 rfl rfl), by decide +kernel⟩
set_option maxRecDepth 20000 in
theorem lk_X9_100 : LkV RX9 100 yX9_reason cX9_reason 7 (some .int) 4 := ⟨(tt_mem 880 rfl rfl), (tt_mem 882 rfl rfl), (tt_sel 37 (q := (yX9_reason, 24)) (by decide +kernel)), (tt_mem 10 rfl rfl), (tt_mem 883 rfl rfl), by decide +kernel⟩
set_option maxRecDepth 20000 in
theorem lk_X9_90 : LkV RX9 90 yX9_last cX9_last 3 (some .int) 2 := ⟨(tt_mem 884 rfl rfl), (tt_mem 886 rfl rfl), (tt_sel 38 (q := (yX9_last, 24)) (by decide +kernel)), (tt_mem 10 rfl rfl), (tt_mem 887 rfl rfl), by decide +kernel⟩
set_option maxRecDepth 20000 in
theorem lk_X9_93 : LkV RX9 93 yX9_keeper cX9_keeper 6 (some .int) 4 := ⟨(tt_mem 888 rfl rfl), (tt_mem 890 rfl rfl), (tt_sel 39 (q := (yX9_keeper, 24)) (by decide +kernel)), (tt_mem 10 rfl rfl), (tt_mem 891 rfl rfl), by decide +kernel⟩
set_option maxRecDepth 20000 in
theorem lk_X9_131 : LkV RX9 131 yX9_adds cX9_adds 5 (some .int) 3 := ⟨(tt_mem 892 rfl rfl), (tt_mem 894 rfl rfl), (tt_sel 40 (q := (yX9_adds, 24)) (by decide +kernel)), (tt_mem 10 rfl rfl), (tt_mem 895 rfl rfl), by decide +kernel⟩
set_option maxRecDepth 20000 in
theorem lk_X9_103 : LkV RX9 103 yX9_puts cX9_puts 4 none 3 := ⟨(tt_mem 896 rfl rfl), (tt_mem 898 rfl rfl), (tt_sel 41 (q := (yX9_puts, 24)) (by decide +kernel)), (tt_mem 10 rfl rfl), (tt_mem 899 rfl rfl), by decide +kernel⟩
set_option maxRecDepth 20000 in
theorem lk_L_39 : LkV RL 39 yX9_cancel cX9_cancel 4 (some .int) 1 := ⟨(tt_mem 900 rfl rfl), (tt_mem 901 rfl rfl), (tt_mem 902 rfl rfl), (tt_mem 10 rfl rfl), (tt_mem 903 rfl rfl), by decide +kernel⟩
set_option maxRecDepth 20000 in
theorem lk_X9_138 : LkV RX9 138 yX9_noBooking cX9_noBooking 2 (some .boolean) 1 := ⟨(tt_mem 904 rfl rfl), (tt_mem 906 rfl rfl), (tt_sel 42 (q := (yX9_noBooking, 24)) (by decide +kernel)), (tt_mem 10 rfl rfl), (tt_mem 907 rfl rfl), by decide +kernel⟩
set_option maxRecDepth 20000 in
theorem lk_X9_141 : LkV RX9 141 yX9_isOpen cX9_isOpen 2 (some .boolean) 1 := ⟨(tt_mem 908 rfl rfl), (tt_mem 910 rfl rfl), (tt_sel 43 (q := (yX9_isOpen, 24)) (by decide +kernel)), (tt_mem 10 rfl rfl), (tt_mem 911 rfl rfl), by decide +kernel⟩
set_option maxRecDepth 20000 in
theorem lk_X9_144 : LkV RX9 144 yX9_ofWish cX9_ofWish 3 (some .int) 2 := ⟨(tt_mem 912 rfl rfl), (tt_mem 914 rfl rfl), (tt_sel 44 (q := (yX9_ofWish, 24)) (by decide +kernel)), (tt_mem 10 rfl rfl), (tt_mem 915 rfl rfl), by decide +kernel⟩
set_option maxRecDepth 20000 in
theorem lk_X9_147 : LkV RX9 147 yX9_grants cX9_grants 5 (some .int) 3 := ⟨(tt_mem 916 rfl rfl), (tt_mem 918 rfl rfl), (tt_sel 45 (q := (yX9_grants, 24)) (by decide +kernel)), (tt_mem 10 rfl rfl), (tt_mem 919 rfl rfl), by decide +kernel⟩
set_option maxRecDepth 20000 in
theorem lk_X9_134 : LkV RX9 134 yX9_first cX9_first 9 (some .int) 5 := ⟨(tt_mem 920 rfl rfl), (tt_mem 922 rfl rfl), (tt_sel 46 (q := (yX9_first, 24)) (by decide +kernel)), (tt_mem 10 rfl rfl), (tt_mem 923 rfl rfl), by decide +kernel⟩
set_option maxRecDepth 20000 in
theorem lk_X9_150 : LkV RX9 150 yX9_leaves cX9_leaves 3 none 1 := ⟨(tt_mem 924 rfl rfl), (tt_mem 926 rfl rfl), (tt_sel 47 (q := (yX9_leaves, 24)) (by decide +kernel)), (tt_mem 10 rfl rfl), (tt_mem 927 rfl rfl), by decide +kernel⟩
set_option maxRecDepth 20000 in
theorem lk_L_44 : LkV RL 44 yX9_move cX9_move 5 (some .int) 2 := ⟨(tt_mem 928 rfl rfl), (tt_mem 929 rfl rfl), (tt_mem 930 rfl rfl), (tt_mem 10 rfl rfl), (tt_mem 931 rfl rfl), by decide +kernel⟩
set_option maxRecDepth 20000 in
theorem lk_L_49 : LkV RL 49 yX9_repair cX9_repair 4 (some .int) 0 := ⟨(tt_mem 932 rfl rfl), (tt_mem 933 rfl rfl), (tt_mem 934 rfl rfl), (tt_mem 10 rfl rfl), (tt_mem 935 rfl rfl), by decide +kernel⟩
set_option maxRecDepth 20000 in
theorem lk_X9_153 : LkV RX9 153 yX9_sick cX9_sick 2 (some .int) 0 := ⟨(tt_mem 936 rfl rfl), (tt_mem 938 rfl rfl), (tt_sel 48 (q := (yX9_sick, 24)) (by decide +kernel)), (tt_mem 10 rfl rfl), (tt_mem 939 rfl rfl), by decide +kernel⟩
set_option maxRecDepth 20000 in
theorem lk_L_53 : LkV RL 53 yX9_wish cX9_wish 6 (some .int) 3 := ⟨(tt_mem 940 rfl rfl), (tt_mem 941 rfl rfl), (tt_mem 942 rfl rfl), (tt_mem 10 rfl rfl), (tt_mem 943 rfl rfl), by decide +kernel⟩
set_option maxRecDepth 20000 in
theorem lk_X9_156 : LkV RX9 156 yX9_goes cX9_goes 2 none 0 := ⟨(tt_mem 944 rfl rfl), (tt_mem 946 rfl rfl), (tt_sel 49 (q := (yX9_goes, 24)) (by decide +kernel)), (tt_mem 10 rfl rfl), (tt_mem 947 rfl rfl), by decide +kernel⟩
set_option maxRecDepth 20000 in
theorem lk_X9_159 : LkV RX9 159 yX9_comes cX9_comes 2 none 0 := ⟨(tt_mem 948 rfl rfl), (tt_mem 950 rfl rfl), (tt_sel 50 (q := (yX9_comes, 24)) (by decide +kernel)), (tt_mem 10 rfl rfl), (tt_mem 951 rfl rfl), by decide +kernel⟩
set_option maxRecDepth 20000 in
theorem lk_L_57 : LkV RL 57 yX9_unwish cX9_unwish 3 (some .int) 1 := ⟨(tt_mem 952 rfl rfl), (tt_mem 953 rfl rfl), (tt_mem 954 rfl rfl), (tt_mem 10 rfl rfl), (tt_mem 955 rfl rfl), by decide +kernel⟩
set_option maxRecDepth 20000 in
theorem lk_L_61 : LkV RL 61 yX9_pass cX9_pass 4 (some .int) 1 := ⟨(tt_mem 956 rfl rfl), (tt_mem 957 rfl rfl), (tt_mem 958 rfl rfl), (tt_mem 10 rfl rfl), (tt_mem 959 rfl rfl), by decide +kernel⟩
set_option maxRecDepth 20000 in
theorem lk_X9_165 : LkV RX9 165 yX9_aTick cX9_aTick 3 (some .int) 0 := ⟨(tt_mem 960 rfl rfl), (tt_mem 962 rfl rfl), (tt_sel 51 (q := (yX9_aTick, 24)) (by decide +kernel)), (tt_mem 10 rfl rfl), (tt_mem 963 rfl rfl), by decide +kernel⟩
set_option maxRecDepth 20000 in
theorem lk_X9_162 : LkV RX9 162 yX9_draws cX9_draws 5 (some .boolean) 1 := ⟨(tt_mem 964 rfl rfl), (tt_mem 966 rfl rfl), (tt_sel 52 (q := (yX9_draws, 24)) (by decide +kernel)), (tt_mem 10 rfl rfl), (tt_mem 967 rfl rfl), by decide +kernel⟩
set_option maxRecDepth 20000 in
theorem lk_L_66 : LkV RL 66 yX9_type cX9_type 2 (some .int) 1 := ⟨(tt_mem 968 rfl rfl), (tt_mem 969 rfl rfl), (tt_mem 970 rfl rfl), (tt_mem 10 rfl rfl), (tt_mem 971 rfl rfl), by decide +kernel⟩
set_option maxRecDepth 20000 in
theorem lk_L_70 : LkV RL 70 yX9_clearText cX9_clearText 2 (some .int) 0 := ⟨(tt_mem 972 rfl rfl), (tt_mem 973 rfl rfl), (tt_mem 974 rfl rfl), (tt_mem 10 rfl rfl), (tt_mem 975 rfl rfl), by decide +kernel⟩
set_option maxRecDepth 20000 in
theorem lk_L_74 : LkV RL 74 yX9_bookAll cX9_bookAll 4 (some .int) 0 := ⟨(tt_mem 976 rfl rfl), (tt_mem 977 rfl rfl), (tt_mem 978 rfl rfl), (tt_mem 10 rfl rfl), (tt_mem 979 rfl rfl), by decide +kernel⟩
set_option maxRecDepth 20000 in
theorem lk_X9_196 : LkV RX9 196 yX9_bookingsOfText cX9_bookingsOfText 3 (some .int) 0 := ⟨(tt_mem 980 rfl rfl), (tt_mem 982 rfl rfl), (tt_sel 53 (q := (yX9_bookingsOfText, 24)) (by decide +kernel)), (tt_mem 10 rfl rfl), (tt_mem 983 rfl rfl), by decide +kernel⟩
set_option maxRecDepth 20000 in
theorem lk_X9_193 : LkV RX9 193 yX9_takesBooking cX9_takesBooking 1 (some .boolean) 0 := ⟨(tt_mem 984 rfl rfl), (tt_mem 986 rfl rfl), (tt_sel 54 (q := (yX9_takesBooking, 24)) (by decide +kernel)), (tt_mem 10 rfl rfl), (tt_mem 987 rfl rfl), by decide +kernel⟩
set_option maxRecDepth 20000 in
theorem lk_X9_181 : LkV RX9 181 yX9_takesNumber cX9_takesNumber 3 (some .boolean) 1 := ⟨(tt_mem 988 rfl rfl), (tt_mem 990 rfl rfl), (tt_sel 55 (q := (yX9_takesNumber, 24)) (by decide +kernel)), (tt_mem 10 rfl rfl), (tt_mem 991 rfl rfl), by decide +kernel⟩
set_option maxRecDepth 20000 in
theorem lk_X9_174 : LkV RX9 174 yX9_isDigit cX9_isDigit 1 (some .boolean) 0 := ⟨(tt_mem 992 rfl rfl), (tt_mem 994 rfl rfl), (tt_sel 56 (q := (yX9_isDigit, 24)) (by decide +kernel)), (tt_mem 10 rfl rfl), (tt_mem 995 rfl rfl), by decide +kernel⟩
set_option maxRecDepth 20000 in
theorem lk_X9_187 : LkV RX9 187 yX9_takes cX9_takes 2 (some .boolean) 1 := ⟨(tt_mem 996 rfl rfl), (tt_mem 998 rfl rfl), (tt_sel 57 (q := (yX9_takes, 24)) (by decide +kernel)), (tt_mem 10 rfl rfl), (tt_mem 999 rfl rfl), by decide +kernel⟩
set_option maxRecDepth 20000 in
theorem lk_X9_199 : LkV RX9 199 yX9_trades cX9_trades 3 none 0 := ⟨(tt_mem 1000 rfl rfl), (tt_mem 1002 rfl rfl), (tt_sel 58 (q := (yX9_trades, 24)) (by decide +kernel)), (tt_mem 10 rfl rfl), (tt_mem 1003 rfl rfl), by decide +kernel⟩
set_option maxRecDepth 20000 in
theorem lk_L_78 : LkV RL 78 yX9_undo cX9_undo 2 (some .int) 0 := ⟨(tt_mem 1004 rfl rfl), (tt_mem 1005 rfl rfl), (tt_mem 1006 rfl rfl), (tt_mem 10 rfl rfl), (tt_mem 1007 rfl rfl), by decide +kernel⟩
set_option maxRecDepth 20000 in
theorem lk_L_82 : LkV RL 82 yX9_keep cX9_keep 2 (some .int) 0 := ⟨(tt_mem 1008 rfl rfl), (tt_mem 1009 rfl rfl), (tt_mem 1010 rfl rfl), (tt_mem 10 rfl rfl), (tt_mem 1011 rfl rfl), by decide +kernel⟩
set_option maxRecDepth 20000 in
theorem lk_L_86 : LkV RL 86 yX9_restore cX9_restore 2 (some .int) 0 := ⟨(tt_mem 1012 rfl rfl), (tt_mem 1013 rfl rfl), (tt_mem 1014 rfl rfl), (tt_mem 10 rfl rfl), (tt_mem 1015 rfl rfl), by decide +kernel⟩
set_option maxRecDepth 20000 in
theorem lk_L_90 : LkV RL 90 yX9_recipe cX9_recipe 3 (some .int) 2 := ⟨(tt_mem 1016 rfl rfl), (tt_mem 1017 rfl rfl), (tt_mem 1018 rfl rfl), (tt_mem 10 rfl rfl), (tt_mem 1019 rfl rfl), by decide +kernel⟩
set_option maxRecDepth 20000 in
theorem lk_X9_206 : LkV RX9 206 yX9_bookings cX9_bookings 7 (some .int) 4 := ⟨(tt_mem 1020 rfl rfl), (tt_mem 1022 rfl rfl), (tt_sel 59 (q := (yX9_bookings, 24)) (by decide +kernel)), (tt_mem 10 rfl rfl), (tt_mem 1023 rfl rfl), by decide +kernel⟩
set_option maxRecDepth 20000 in
theorem lk_L_94 : LkV RL 94 yX9_robot cX9_robot 4 (some .int) 2 := ⟨(tt_mem 1024 rfl rfl), (tt_mem 1025 rfl rfl), (tt_mem 1026 rfl rfl), (tt_mem 10 rfl rfl), (tt_mem 1027 rfl rfl), by decide +kernel⟩
set_option maxRecDepth 20000 in
theorem lk_L_98 : LkV RL 98 yX9_booking cX9_booking 3 (some .int) 2 := ⟨(tt_mem 1028 rfl rfl), (tt_mem 1029 rfl rfl), (tt_mem 1030 rfl rfl), (tt_mem 10 rfl rfl), (tt_mem 1031 rfl rfl), by decide +kernel⟩
set_option maxRecDepth 20000 in
theorem lk_L_102 : LkV RL 102 yX9_wishTold cX9_wishTold 3 (some .int) 2 := ⟨(tt_mem 1032 rfl rfl), (tt_mem 1033 rfl rfl), (tt_mem 1034 rfl rfl), (tt_mem 10 rfl rfl), (tt_mem 1035 rfl rfl), by decide +kernel⟩
set_option maxRecDepth 20000 in
theorem lk_L_106 : LkV RL 106 yX9_pressureIn cX9_pressureIn 3 (some .int) 1 := ⟨(tt_mem 1036 rfl rfl), (tt_mem 1037 rfl rfl), (tt_mem 1038 rfl rfl), (tt_mem 10 rfl rfl), (tt_mem 1039 rfl rfl), by decide +kernel⟩
set_option maxRecDepth 20000 in
theorem lk_L_110 : LkV RL 110 yX9_lowestIn cX9_lowestIn 4 (some .int) 1 := ⟨(tt_mem 1040 rfl rfl), (tt_mem 1041 rfl rfl), (tt_mem 1042 rfl rfl), (tt_mem 10 rfl rfl), (tt_mem 1043 rfl rfl), by decide +kernel⟩
set_option maxRecDepth 20000 in
theorem lk_L_114 : LkV RL 114 yX9_why cX9_why 6 (some .int) 4 := ⟨(tt_mem 1044 rfl rfl), (tt_mem 1045 rfl rfl), (tt_mem 1046 rfl rfl), (tt_mem 10 rfl rfl), (tt_mem 1047 rfl rfl), by decide +kernel⟩
set_option maxRecDepth 20000 in
theorem lk_L_118 : LkV RL 118 yX9_earliest cX9_earliest 4 (some .int) 3 := ⟨(tt_mem 1048 rfl rfl), (tt_mem 1049 rfl rfl), (tt_mem 1050 rfl rfl), (tt_mem 10 rfl rfl), (tt_mem 1051 rfl rfl), by decide +kernel⟩
set_option maxRecDepth 20000 in
theorem lk_L_122 : LkV RL 122 yX9_count cX9_count 2 (some .int) 1 := ⟨(tt_mem 1052 rfl rfl), (tt_mem 1053 rfl rfl), (tt_mem 1054 rfl rfl), (tt_mem 10 rfl rfl), (tt_mem 1055 rfl rfl), by decide +kernel⟩
