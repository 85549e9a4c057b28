/-! the law's walk: its answers, its script -/
def lw_Zv (v : Int32) (below : List Frame) (a : Array Value) (s : State) : State → Prop := fun t => ∃ o, t.status = .running ∧ Ended t below o ∧ o = .returned (some (.int v)) ∧ Framed s o t [] 600000 7302250
theorem lw_retv {p : Program} {l : Launch} {e : Env} {s : State} {m : MethodId} {below : List Frame} {meth : Method} {c : Code} {b : Nat} {v : Int32} (hn : narrow .boolean (.int v) = .int v) (hx : p.tables.exec = Jvm.exec) (hb : c.code = code) (hr : meth.sig.returnType = ret) (hlocks : meth.locks = false) {pc : Nat} {H : Heap} {ls : Array Slot} (hdg : decode code pc = .ok (.ireturn, 1)) : W p l e room_1 s m #[Value.ref b] below meth c H [] 600000 7302250 (lw_Zv v below #[Value.ref b] s) (F0 m pc ls [.int v]) := by
  intro T hT X
  obtain ⟨fs, hret, hrun, hended, hW, hframe⟩ := X.leave (v := some (.int v)) (hlocks := hlocks) (fun h => by rw [hr] at h; cases h)
  have hmeth' : T.vm.method? m = some meth := X.method'
  refine ⟨T.setFrames fs, ?_, .returned (some (.int v)), hrun, hended, rfl, ⟨_, rfl⟩, hW, hframe⟩
  jvm_step X.here [X.here.top, hx, hb, hdg, hmeth', hr, ret, hn]
  (try refine ⟨rfl, ?_⟩); (try refine ⟨rfl, ?_⟩)
  first | (intro acts; rw [hret _ acts rfl rfl rfl]) | rw [hret _ _ rfl rfl rfl]
  exact Steps.refl _
def OkL (x : Cx) (y : Cy) (b : Nat) : Prop :=
  Ok x y code RL ∧ x.2.2.2.2.1 = 4 ∧ x.1.2.2.2.1 = room_1 ∧ (x.2.2.2.2.2.1 = fun q => x.1.2.2.2.2.heap.size ≤ q) ∧ x.2.1.2.2.2.1.sig.returnType = ret ∧ x.2.1.2.2.2.1.locks = false ∧ x.2.1.2.1 = #[Value.ref b] ∧ x.2.2.2.2.2.2 = fun r _ => lw_Zv r x.2.1.2.2.1 #[Value.ref b] x.1.2.2.2.2
theorem G_lret {x : Cx} {y : Cy} {b : Nat} (h : OkL x y b) {pc : Nat} {lv : List (Nat × Value)} {M : Mem} {v : Int32} (hn : narrow .boolean (.int v) = .int v) (hd : decode code pc = .ok (.ireturn, 1)) : G x y pc lv [.int v] M (some (v, M)) := by
  intro r M' ho H locs ls hP hS hl
  cases ho
  obtain ⟨⟨hx, hb, -, -, -, -, -, -, hc, hs⟩, hL, hR, hA, hr, hlk, hav, hQ⟩ := h
  unfold WW
  rw [hR] at hc hs
  rw [hQ, hR, hav]
  rw [hA] at hS
  refine va_forget (fun q hq => hS.2.2 q hq) ?_
  refine W.widen (k := 600000) (n := 7302250) hc hs ?_
  exact lw_retv hn hx hb hr hlk hd
theorem G_lret1 {x : Cx} {y : Cy} {b : Nat} (h : OkL x y b) {pc : Nat} {lv : List (Nat × Value)} {M : Mem} (hd : decode code pc = .ok (.ireturn, 1)) : G x y pc lv [.int 1] M (some (1, M)) := G_lret h rfl hd
theorem G_lret0 {x : Cx} {y : Cy} {b : Nat} (h : OkL x y b) {pc : Nat} {lv : List (Nat × Value)} {M : Mem} (hd : decode code pc = .ok (.ireturn, 1)) : G x y pc lv [.int 0] M (some (0, M)) := G_lret h rfl hd
theorem G_sld {x : Cx} {y : Cy} {cc : ByteArray} {own : String} (h : Ok x y cc own) {b sL : Nat} {xs : Nat → Int32} (hX : va_X b sL xs x.1.2.2.2.2 x.1.2.2.2.2.heap) (hbl : b < x.1.2.2.2.2.heap.size) (hA : x.2.2.2.2.2.1 = fun q => x.1.2.2.2.2.heap.size ≤ q) {pc : Nat} {lv : List (Nat × Value)} {st : List Value} {M : Mem} {o : Ans} {ix : Int32} (hd : decode cc pc = .ok (.iaload, 1)) (kk : G x y (pc + 1) lv (.int (xs ix.toNatClampNeg) :: st) M o) : G x y pc lv (.int ix :: .ref b :: st) M (chk ix sL o) := by
  intro r M' ho H locs ls hP hS hl
  by_cases hc : ix < 0 ∨ sL ≤ ix.toNatClampNeg
  · unfold chk at ho
    rw [if_pos hc] at ho
    cases ho
  · unfold chk at ho
    rw [if_neg hc] at ho
    exact va_sld h.1 h.2.1 hX hbl (by rw [hA]; exact Nat.not_le.mpr hbl) hS hc hd (kk r M' ho H locs ls hP hS hl)
theorem G_slen {x : Cx} {y : Cy} {cc : ByteArray} {own : String} (h : Ok x y cc own) {b sL : Nat} {xs : Nat → Int32} (hX : va_X b sL xs x.1.2.2.2.2 x.1.2.2.2.2.heap) (hbl : b < x.1.2.2.2.2.heap.size) (hA : x.2.2.2.2.2.1 = fun q => x.1.2.2.2.2.heap.size ≤ q) {pc : Nat} {lv : List (Nat × Value)} {st : List Value} {M : Mem} {o : Ans} (hd : decode cc pc = .ok (.arraylength, 1)) (kk : G x y (pc + 1) lv (.int (Int32.ofNat sL) :: st) M o) : G x y pc lv (.ref b :: st) M o := by
  intro r M' ho H locs ls hP hS hl
  exact va_slen h.1 h.2.1 hX hbl (by rw [hA]; exact Nat.not_le.mpr hbl) hS hd (kk r M' ho H locs ls hP hS hl)
def d_L_law_B862 (xs : Nat → Int32) (sL : Nat) (kx1 : Mem → Ans) (kb : Int32 → Mem → Ans) (a3 : Int32) (M : Mem) : Ans :=
  (bnd (a3 + (5)) fun v5 => (kb v5 M))
def d_L_law_L18_body (xs : Nat → Int32) (sL : Nat) (kx1 : Mem → Ans) (kb : Int32 → Mem → Ans) (a3 : Int32) (M : Mem) : Ans :=
  (if ((Int32.ofNat sL) - (5 : Int32)) < a3 then (kx1 M) else (chk a3 sL (if ((xs (a3).toNatClampNeg) &&& (31 : Int32)) = (0) then (chk (a3 + (1 : Int32)) sL (chk (a3 + (2 : Int32)) sL (chk (a3 + (3 : Int32)) sL (chk (a3 + (4 : Int32)) sL (bd (d_X8_addRecipe (xs ((a3 + (1 : Int32))).toNatClampNeg) (xs ((a3 + (2 : Int32))).toNatClampNeg) (xs ((a3 + (3 : Int32))).toNatClampNeg) (xs ((a3 + (4 : Int32))).toNatClampNeg) M) fun r2 M1 => (chk (a3 + (1 : Int32)) sL (chk (a3 + (2 : Int32)) sL (chk (a3 + (3 : Int32)) sL (chk (a3 + (4 : Int32)) sL (bd (d_X9_addRecipe (xs ((a3 + (1 : Int32))).toNatClampNeg) (xs ((a3 + (2 : Int32))).toNatClampNeg) (xs ((a3 + (3 : Int32))).toNatClampNeg) (xs ((a3 + (4 : Int32))).toNatClampNeg) M1) fun r4 M3 => (d_L_law_B862 xs sL kx1 kb a3 M3))))))))))) else (if ((xs (a3).toNatClampNeg) &&& (31 : Int32)) = (1) then (chk (a3 + (1 : Int32)) sL (bd (d_X8_setHeat (xs ((a3 + (1 : Int32))).toNatClampNeg) M) fun r8 M7 => (chk (a3 + (1 : Int32)) sL (bd (d_X9_setHeat (xs ((a3 + (1 : Int32))).toNatClampNeg) M7) fun r10 M9 => (d_L_law_B862 xs sL kx1 kb a3 M9))))) else (if ((xs (a3).toNatClampNeg) &&& (31 : Int32)) = (2) then (chk (a3 + (1 : Int32)) sL (bd (d_X8_setMost (xs ((a3 + (1 : Int32))).toNatClampNeg) M) fun r13 M12 => (chk (a3 + (1 : Int32)) sL (bd (d_X9_setMost (xs ((a3 + (1 : Int32))).toNatClampNeg) M12) fun r15 M14 => (d_L_law_B862 xs sL kx1 kb a3 M14))))) else (if ((xs (a3).toNatClampNeg) &&& (31 : Int32)) = (3) then (chk (a3 + (1 : Int32)) sL (bd (d_X8_fall (xs ((a3 + (1 : Int32))).toNatClampNeg) M) fun r18 M17 => (chk (a3 + (1 : Int32)) sL (bd (d_X9_fall (xs ((a3 + (1 : Int32))).toNatClampNeg) M17) fun r20 M19 => (d_L_law_B862 xs sL kx1 kb a3 M19))))) else (if ((xs (a3).toNatClampNeg) &&& (31 : Int32)) = (4) then (chk (a3 + (1 : Int32)) sL (chk (a3 + (2 : Int32)) sL (chk (a3 + (3 : Int32)) sL (bd (d_X8_book (xs ((a3 + (1 : Int32))).toNatClampNeg) (xs ((a3 + (2 : Int32))).toNatClampNeg) (xs ((a3 + (3 : Int32))).toNatClampNeg) M) fun r23 M22 => (chk (a3 + (1 : Int32)) sL (chk (a3 + (2 : Int32)) sL (chk (a3 + (3 : Int32)) sL (bd (d_X9_book (xs ((a3 + (1 : Int32))).toNatClampNeg) (xs ((a3 + (2 : Int32))).toNatClampNeg) (xs ((a3 + (3 : Int32))).toNatClampNeg) M22) fun r25 M24 => (d_L_law_B862 xs sL kx1 kb a3 M24))))))))) else (if ((xs (a3).toNatClampNeg) &&& (31 : Int32)) = (5) then (chk (a3 + (1 : Int32)) sL (bd (d_X8_cancel (xs ((a3 + (1 : Int32))).toNatClampNeg) M) fun r28 M27 => (chk (a3 + (1 : Int32)) sL (bd (d_X9_cancel (xs ((a3 + (1 : Int32))).toNatClampNeg) M27) fun r30 M29 => (d_L_law_B862 xs sL kx1 kb a3 M29))))) else (if ((xs (a3).toNatClampNeg) &&& (31 : Int32)) = (6) then (chk (a3 + (1 : Int32)) sL (chk (a3 + (2 : Int32)) sL (bd (d_X8_move (xs ((a3 + (1 : Int32))).toNatClampNeg) (xs ((a3 + (2 : Int32))).toNatClampNeg) M) fun r33 M32 => (chk (a3 + (1 : Int32)) sL (chk (a3 + (2 : Int32)) sL (bd (d_X9_move (xs ((a3 + (1 : Int32))).toNatClampNeg) (xs ((a3 + (2 : Int32))).toNatClampNeg) M32) fun r35 M34 => (d_L_law_B862 xs sL kx1 kb a3 M34))))))) else (if ((xs (a3).toNatClampNeg) &&& (31 : Int32)) = (7) then (bd (d_X8_repair M) fun r38 M37 => (bd (d_X9_repair M37) fun r40 M39 => (d_L_law_B862 xs sL kx1 kb a3 M39))) else (if ((xs (a3).toNatClampNeg) &&& (31 : Int32)) = (8) then (chk (a3 + (1 : Int32)) sL (chk (a3 + (2 : Int32)) sL (chk (a3 + (3 : Int32)) sL (bd (d_X8_wish (xs ((a3 + (1 : Int32))).toNatClampNeg) (xs ((a3 + (2 : Int32))).toNatClampNeg) (xs ((a3 + (3 : Int32))).toNatClampNeg) M) fun r43 M42 => (chk (a3 + (1 : Int32)) sL (chk (a3 + (2 : Int32)) sL (chk (a3 + (3 : Int32)) sL (bd (d_X9_wish (xs ((a3 + (1 : Int32))).toNatClampNeg) (xs ((a3 + (2 : Int32))).toNatClampNeg) (xs ((a3 + (3 : Int32))).toNatClampNeg) M42) fun r45 M44 => (d_L_law_B862 xs sL kx1 kb a3 M44))))))))) else (if ((xs (a3).toNatClampNeg) &&& (31 : Int32)) = (9) then (chk (a3 + (1 : Int32)) sL (bd (d_X8_unwish (xs ((a3 + (1 : Int32))).toNatClampNeg) M) fun r48 M47 => (chk (a3 + (1 : Int32)) sL (bd (d_X9_unwish (xs ((a3 + (1 : Int32))).toNatClampNeg) M47) fun r50 M49 => (d_L_law_B862 xs sL kx1 kb a3 M49))))) else (if ((xs (a3).toNatClampNeg) &&& (31 : Int32)) = (10) then (chk (a3 + (1 : Int32)) sL (bd (d_X8_pass (xs ((a3 + (1 : Int32))).toNatClampNeg) M) fun r53 M52 => (chk (a3 + (1 : Int32)) sL (bd (d_X9_pass (xs ((a3 + (1 : Int32))).toNatClampNeg) M52) fun r55 M54 => (d_L_law_B862 xs sL kx1 kb a3 M54))))) else (if ((xs (a3).toNatClampNeg) &&& (31 : Int32)) = (11) then (chk (a3 + (1 : Int32)) sL (bd (d_X8_type ((((xs ((a3 + (1 : Int32))).toNatClampNeg)).toUInt32 % 65536).toInt32) M) fun r58 M57 => (chk (a3 + (1 : Int32)) sL (bd (d_X9_type ((((xs ((a3 + (1 : Int32))).toNatClampNeg)).toUInt32 % 65536).toInt32) M57) fun r60 M59 => (d_L_law_B862 xs sL kx1 kb a3 M59))))) else (if ((xs (a3).toNatClampNeg) &&& (31 : Int32)) = (12) then (bd (d_X8_clearText M) fun r63 M62 => (bd (d_X9_clearText M62) fun r65 M64 => (d_L_law_B862 xs sL kx1 kb a3 M64))) else (if ((xs (a3).toNatClampNeg) &&& (31 : Int32)) = (13) then (bd (d_X8_bookAll M) fun r68 M67 => (bd (d_X9_bookAll M67) fun r70 M69 => (d_L_law_B862 xs sL kx1 kb a3 M69))) else (if ((xs (a3).toNatClampNeg) &&& (31 : Int32)) = (14) then (bd (d_X8_undo M) fun r73 M72 => (bd (d_X9_undo M72) fun r75 M74 => (d_L_law_B862 xs sL kx1 kb a3 M74))) else (if ((xs (a3).toNatClampNeg) &&& (31 : Int32)) = (15) then (bd (d_X8_keep M) fun r78 M77 => (bd (d_X9_keep M77) fun r80 M79 => (d_L_law_B862 xs sL kx1 kb a3 M79))) else (if ((xs (a3).toNatClampNeg) &&& (31 : Int32)) = (16) then (bd (d_X8_restore M) fun r83 M82 => (bd (d_X9_restore M82) fun r85 M84 => (d_L_law_B862 xs sL kx1 kb a3 M84))) else (if ((xs (a3).toNatClampNeg) &&& (31 : Int32)) = (17) then (chk (a3 + (1 : Int32)) sL (chk (a3 + (2 : Int32)) sL (bd (d_X8_recipe (xs ((a3 + (1 : Int32))).toNatClampNeg) (xs ((a3 + (2 : Int32))).toNatClampNeg) M) fun r88 M87 => (chk (a3 + (1 : Int32)) sL (chk (a3 + (2 : Int32)) sL (bd (d_X9_recipe (xs ((a3 + (1 : Int32))).toNatClampNeg) (xs ((a3 + (2 : Int32))).toNatClampNeg) M87) fun r90 M89 => (d_L_law_B862 xs sL kx1 kb a3 M89))))))) else (if ((xs (a3).toNatClampNeg) &&& (31 : Int32)) = (18) then (chk (a3 + (1 : Int32)) sL (chk (a3 + (2 : Int32)) sL (bd (d_X8_robot (xs ((a3 + (1 : Int32))).toNatClampNeg) (xs ((a3 + (2 : Int32))).toNatClampNeg) M) fun r93 M92 => (chk (a3 + (1 : Int32)) sL (chk (a3 + (2 : Int32)) sL (bd (d_X9_robot (xs ((a3 + (1 : Int32))).toNatClampNeg) (xs ((a3 + (2 : Int32))).toNatClampNeg) M92) fun r95 M94 => (d_L_law_B862 xs sL kx1 kb a3 M94))))))) else (if ((xs (a3).toNatClampNeg) &&& (31 : Int32)) = (19) then (chk (a3 + (1 : Int32)) sL (chk (a3 + (2 : Int32)) sL (bd (d_X8_booking (xs ((a3 + (1 : Int32))).toNatClampNeg) (xs ((a3 + (2 : Int32))).toNatClampNeg) M) fun r98 M97 => (chk (a3 + (1 : Int32)) sL (chk (a3 + (2 : Int32)) sL (bd (d_X9_booking (xs ((a3 + (1 : Int32))).toNatClampNeg) (xs ((a3 + (2 : Int32))).toNatClampNeg) M97) fun r100 M99 => (d_L_law_B862 xs sL kx1 kb a3 M99))))))) else (if ((xs (a3).toNatClampNeg) &&& (31 : Int32)) = (20) then (chk (a3 + (1 : Int32)) sL (chk (a3 + (2 : Int32)) sL (bd (d_X8_wishTold (xs ((a3 + (1 : Int32))).toNatClampNeg) (xs ((a3 + (2 : Int32))).toNatClampNeg) M) fun r103 M102 => (chk (a3 + (1 : Int32)) sL (chk (a3 + (2 : Int32)) sL (bd (d_X9_wishTold (xs ((a3 + (1 : Int32))).toNatClampNeg) (xs ((a3 + (2 : Int32))).toNatClampNeg) M102) fun r105 M104 => (d_L_law_B862 xs sL kx1 kb a3 M104))))))) else (if ((xs (a3).toNatClampNeg) &&& (31 : Int32)) = (21) then (chk (a3 + (1 : Int32)) sL (bd (d_X8_pressureIn (xs ((a3 + (1 : Int32))).toNatClampNeg) M) fun r108 M107 => (chk (a3 + (1 : Int32)) sL (bd (d_X9_pressureIn (xs ((a3 + (1 : Int32))).toNatClampNeg) M107) fun r110 M109 => (d_L_law_B862 xs sL kx1 kb a3 M109))))) else (if ((xs (a3).toNatClampNeg) &&& (31 : Int32)) = (22) then (chk (a3 + (1 : Int32)) sL (bd (d_X8_lowestIn (xs ((a3 + (1 : Int32))).toNatClampNeg) M) fun r113 M112 => (chk (a3 + (1 : Int32)) sL (bd (d_X9_lowestIn (xs ((a3 + (1 : Int32))).toNatClampNeg) M112) fun r115 M114 => (d_L_law_B862 xs sL kx1 kb a3 M114))))) else (if ((xs (a3).toNatClampNeg) &&& (31 : Int32)) = (23) then (chk (a3 + (1 : Int32)) sL (chk (a3 + (2 : Int32)) sL (chk (a3 + (3 : Int32)) sL (chk (a3 + (4 : Int32)) sL (bd (d_X8_why (xs ((a3 + (1 : Int32))).toNatClampNeg) (xs ((a3 + (2 : Int32))).toNatClampNeg) (xs ((a3 + (3 : Int32))).toNatClampNeg) (xs ((a3 + (4 : Int32))).toNatClampNeg) M) fun r118 M117 => (chk (a3 + (1 : Int32)) sL (chk (a3 + (2 : Int32)) sL (chk (a3 + (3 : Int32)) sL (chk (a3 + (4 : Int32)) sL (bd (d_X9_why (xs ((a3 + (1 : Int32))).toNatClampNeg) (xs ((a3 + (2 : Int32))).toNatClampNeg) (xs ((a3 + (3 : Int32))).toNatClampNeg) (xs ((a3 + (4 : Int32))).toNatClampNeg) M117) fun r120 M119 => (d_L_law_B862 xs sL kx1 kb a3 M119))))))))))) else (if ((xs (a3).toNatClampNeg) &&& (31 : Int32)) = (24) then (chk (a3 + (1 : Int32)) sL (chk (a3 + (2 : Int32)) sL (chk (a3 + (3 : Int32)) sL (bd (d_X8_earliest (xs ((a3 + (1 : Int32))).toNatClampNeg) (xs ((a3 + (2 : Int32))).toNatClampNeg) (xs ((a3 + (3 : Int32))).toNatClampNeg) M) fun r123 M122 => (chk (a3 + (1 : Int32)) sL (chk (a3 + (2 : Int32)) sL (chk (a3 + (3 : Int32)) sL (bd (d_X9_earliest (xs ((a3 + (1 : Int32))).toNatClampNeg) (xs ((a3 + (2 : Int32))).toNatClampNeg) (xs ((a3 + (3 : Int32))).toNatClampNeg) M122) fun r125 M124 => (if r123 = r125 then (d_L_law_B862 xs sL kx1 kb a3 M124) else (some ((0 : Int32), M124))))))))))) else (if ((xs (a3).toNatClampNeg) &&& (31 : Int32)) = (25) then (chk (a3 + (1 : Int32)) sL (bd (d_X8_count (xs ((a3 + (1 : Int32))).toNatClampNeg) M) fun r128 M127 => (chk (a3 + (1 : Int32)) sL (bd (d_X9_count (xs ((a3 + (1 : Int32))).toNatClampNeg) M127) fun r130 M129 => (d_L_law_B862 xs sL kx1 kb a3 M129))))) else (d_L_law_B862 xs sL kx1 kb a3 M)))))))))))))))))))))))))))))
def d_L_law_L18 (xs : Nat → Int32) (sL : Nat) (kx1 : Mem → Ans) : Nat → Int32 → Mem → Ans
  | 0 => fun _ _ => none
  | n + 1 => fun a3 M => d_L_law_L18_body xs sL kx1 (d_L_law_L18 xs sL kx1 n) a3 M
def d_law (xs : Nat → Int32) (sL : Nat) (M : Mem) : Ans :=
  (d_L_law_L18 xs sL (fun M132 => (some ((1 : Int32), M132))) fuelN (0 : Int32) M)
theorem dL_law_0 : decode cL_law 0 = .ok (.new 7, 3) := by decide +kernel
theorem dL_law_3 : decode cL_law 3 = .ok (.dup, 1) := by decide +kernel
theorem dL_law_4 : decode cL_law 4 = .ok (.invokespecial 9, 3) := by decide +kernel
theorem dL_law_7 : decode cL_law 7 = .ok (.astore_n 1, 1) := by decide +kernel
theorem dL_law_8 : decode cL_law 8 = .ok (.new 10, 3) := by decide +kernel
theorem dL_law_11 : decode cL_law 11 = .ok (.dup, 1) := by decide +kernel
theorem dL_law_12 : decode cL_law 12 = .ok (.invokespecial 12, 3) := by decide +kernel
theorem dL_law_15 : decode cL_law 15 = .ok (.astore_n 2, 1) := by decide +kernel
theorem dL_law_16 : decode cL_law 16 = .ok (.iconst 0, 1) := by decide +kernel
theorem dL_law_17 : decode cL_law 17 = .ok (.istore_n 3, 1) := by decide +kernel
theorem dL_law_18 : decode cL_law 18 = .ok (.iload_n 3, 1) := by decide +kernel
theorem dL_law_19 : decode cL_law 19 = .ok (.aload_n 0, 1) := by decide +kernel
theorem dL_law_20 : decode cL_law 20 = .ok (.arraylength, 1) := by decide +kernel
theorem dL_law_21 : decode cL_law 21 = .ok (.iconst 5, 1) := by decide +kernel
theorem dL_law_22 : decode cL_law 22 = .ok (.isub, 1) := by decide +kernel
theorem dL_law_23 : decode cL_law 23 = .ok (.if_icmp .gt 845, 3) := by decide +kernel
theorem dL_law_26 : decode cL_law 26 = .ok (.aload_n 0, 1) := by decide +kernel
theorem dL_law_27 : decode cL_law 27 = .ok (.iload_n 3, 1) := by decide +kernel
theorem dL_law_28 : decode cL_law 28 = .ok (.iaload, 1) := by decide +kernel
theorem dL_law_29 : decode cL_law 29 = .ok (.bipush 31, 2) := by decide +kernel
theorem dL_law_31 : decode cL_law 31 = .ok (.iand, 1) := by decide +kernel
theorem dL_law_32 : decode cL_law 32 = .ok (.tableswitch 830 0 25 #[120, 173, 196, 219, 242, 285, 308, 341, 354, 397, 420, 443, 468, 481, 494, 507, 520, 533, 566, 599, 632, 665, 688, 711, 764, 807], 120) := by decide +kernel
theorem dL_law_152 : decode cL_law 152 = .ok (.aload_n 1, 1) := by decide +kernel
theorem dL_law_153 : decode cL_law 153 = .ok (.aload_n 0, 1) := by decide +kernel
theorem dL_law_154 : decode cL_law 154 = .ok (.iload_n 3, 1) := by decide +kernel
theorem dL_law_155 : decode cL_law 155 = .ok (.iconst 1, 1) := by decide +kernel
theorem dL_law_156 : decode cL_law 156 = .ok (.iadd, 1) := by decide +kernel
theorem dL_law_157 : decode cL_law 157 = .ok (.iaload, 1) := by decide +kernel
theorem dL_law_158 : decode cL_law 158 = .ok (.aload_n 0, 1) := by decide +kernel
theorem dL_law_159 : decode cL_law 159 = .ok (.iload_n 3, 1) := by decide +kernel
theorem dL_law_160 : decode cL_law 160 = .ok (.iconst 2, 1) := by decide +kernel
theorem dL_law_161 : decode cL_law 161 = .ok (.iadd, 1) := by decide +kernel
theorem dL_law_162 : decode cL_law 162 = .ok (.iaload, 1) := by decide +kernel
theorem dL_law_163 : decode cL_law 163 = .ok (.aload_n 0, 1) := by decide +kernel
theorem dL_law_164 : decode cL_law 164 = .ok (.iload_n 3, 1) := by decide +kernel
theorem dL_law_165 : decode cL_law 165 = .ok (.iconst 3, 1) := by decide +kernel
theorem dL_law_166 : decode cL_law 166 = .ok (.iadd, 1) := by decide +kernel
theorem dL_law_167 : decode cL_law 167 = .ok (.iaload, 1) := by decide +kernel
theorem dL_law_168 : decode cL_law 168 = .ok (.aload_n 0, 1) := by decide +kernel
theorem dL_law_169 : decode cL_law 169 = .ok (.iload_n 3, 1) := by decide +kernel
theorem dL_law_170 : decode cL_law 170 = .ok (.iconst 4, 1) := by decide +kernel
theorem dL_law_171 : decode cL_law 171 = .ok (.iadd, 1) := by decide +kernel
theorem dL_law_172 : decode cL_law 172 = .ok (.iaload, 1) := by decide +kernel
theorem dL_law_173 : decode cL_law 173 = .ok (.invokevirtual 13, 3) := by decide +kernel
theorem dL_law_176 : decode cL_law 176 = .ok (.pop, 1) := by decide +kernel
theorem dL_law_177 : decode cL_law 177 = .ok (.aload_n 2, 1) := by decide +kernel
theorem dL_law_178 : decode cL_law 178 = .ok (.aload_n 0, 1) := by decide +kernel
theorem dL_law_179 : decode cL_law 179 = .ok (.iload_n 3, 1) := by decide +kernel
theorem dL_law_180 : decode cL_law 180 = .ok (.iconst 1, 1) := by decide +kernel
theorem dL_law_181 : decode cL_law 181 = .ok (.iadd, 1) := by decide +kernel
theorem dL_law_182 : decode cL_law 182 = .ok (.iaload, 1) := by decide +kernel
theorem dL_law_183 : decode cL_law 183 = .ok (.aload_n 0, 1) := by decide +kernel
theorem dL_law_184 : decode cL_law 184 = .ok (.iload_n 3, 1) := by decide +kernel
theorem dL_law_185 : decode cL_law 185 = .ok (.iconst 2, 1) := by decide +kernel
theorem dL_law_186 : decode cL_law 186 = .ok (.iadd, 1) := by decide +kernel
theorem dL_law_187 : decode cL_law 187 = .ok (.iaload, 1) := by decide +kernel
theorem dL_law_188 : decode cL_law 188 = .ok (.aload_n 0, 1) := by decide +kernel
theorem dL_law_189 : decode cL_law 189 = .ok (.iload_n 3, 1) := by decide +kernel
theorem dL_law_190 : decode cL_law 190 = .ok (.iconst 3, 1) := by decide +kernel
theorem dL_law_191 : decode cL_law 191 = .ok (.iadd, 1) := by decide +kernel
theorem dL_law_192 : decode cL_law 192 = .ok (.iaload, 1) := by decide +kernel
theorem dL_law_193 : decode cL_law 193 = .ok (.aload_n 0, 1) := by decide +kernel
theorem dL_law_194 : decode cL_law 194 = .ok (.iload_n 3, 1) := by decide +kernel
theorem dL_law_195 : decode cL_law 195 = .ok (.iconst 4, 1) := by decide +kernel
theorem dL_law_196 : decode cL_law 196 = .ok (.iadd, 1) := by decide +kernel
theorem dL_law_197 : decode cL_law 197 = .ok (.iaload, 1) := by decide +kernel
theorem dL_law_198 : decode cL_law 198 = .ok (.invokevirtual 17, 3) := by decide +kernel
theorem dL_law_201 : decode cL_law 201 = .ok (.pop, 1) := by decide +kernel
theorem dL_law_202 : decode cL_law 202 = .ok (.goto 660, 3) := by decide +kernel
theorem dL_law_205 : decode cL_law 205 = .ok (.aload_n 1, 1) := by decide +kernel
theorem dL_law_206 : decode cL_law 206 = .ok (.aload_n 0, 1) := by decide +kernel
theorem dL_law_207 : decode cL_law 207 = .ok (.iload_n 3, 1) := by decide +kernel
theorem dL_law_208 : decode cL_law 208 = .ok (.iconst 1, 1) := by decide +kernel
theorem dL_law_209 : decode cL_law 209 = .ok (.iadd, 1) := by decide +kernel
theorem dL_law_210 : decode cL_law 210 = .ok (.iaload, 1) := by decide +kernel
theorem dL_law_211 : decode cL_law 211 = .ok (.invokevirtual 18, 3) := by decide +kernel
theorem dL_law_214 : decode cL_law 214 = .ok (.pop, 1) := by decide +kernel
theorem dL_law_215 : decode cL_law 215 = .ok (.aload_n 2, 1) := by decide +kernel
theorem dL_law_216 : decode cL_law 216 = .ok (.aload_n 0, 1) := by decide +kernel
theorem dL_law_217 : decode cL_law 217 = .ok (.iload_n 3, 1) := by decide +kernel
theorem dL_law_218 : decode cL_law 218 = .ok (.iconst 1, 1) := by decide +kernel
theorem dL_law_219 : decode cL_law 219 = .ok (.iadd, 1) := by decide +kernel
theorem dL_law_220 : decode cL_law 220 = .ok (.iaload, 1) := by decide +kernel
theorem dL_law_221 : decode cL_law 221 = .ok (.invokevirtual 22, 3) := by decide +kernel
theorem dL_law_224 : decode cL_law 224 = .ok (.pop, 1) := by decide +kernel
theorem dL_law_225 : decode cL_law 225 = .ok (.goto 637, 3) := by decide +kernel
theorem dL_law_228 : decode cL_law 228 = .ok (.aload_n 1, 1) := by decide +kernel
theorem dL_law_229 : decode cL_law 229 = .ok (.aload_n 0, 1) := by decide +kernel
theorem dL_law_230 : decode cL_law 230 = .ok (.iload_n 3, 1) := by decide +kernel
theorem dL_law_231 : decode cL_law 231 = .ok (.iconst 1, 1) := by decide +kernel
theorem dL_law_232 : decode cL_law 232 = .ok (.iadd, 1) := by decide +kernel
theorem dL_law_233 : decode cL_law 233 = .ok (.iaload, 1) := by decide +kernel
theorem dL_law_234 : decode cL_law 234 = .ok (.invokevirtual 23, 3) := by decide +kernel
theorem dL_law_237 : decode cL_law 237 = .ok (.pop, 1) := by decide +kernel
theorem dL_law_238 : decode cL_law 238 = .ok (.aload_n 2, 1) := by decide +kernel
theorem dL_law_239 : decode cL_law 239 = .ok (.aload_n 0, 1) := by decide +kernel
theorem dL_law_240 : decode cL_law 240 = .ok (.iload_n 3, 1) := by decide +kernel
theorem dL_law_241 : decode cL_law 241 = .ok (.iconst 1, 1) := by decide +kernel
theorem dL_law_242 : decode cL_law 242 = .ok (.iadd, 1) := by decide +kernel
theorem dL_law_243 : decode cL_law 243 = .ok (.iaload, 1) := by decide +kernel
theorem dL_law_244 : decode cL_law 244 = .ok (.invokevirtual 26, 3) := by decide +kernel
theorem dL_law_247 : decode cL_law 247 = .ok (.pop, 1) := by decide +kernel
theorem dL_law_248 : decode cL_law 248 = .ok (.goto 614, 3) := by decide +kernel
theorem dL_law_251 : decode cL_law 251 = .ok (.aload_n 1, 1) := by decide +kernel
theorem dL_law_252 : decode cL_law 252 = .ok (.aload_n 0, 1) := by decide +kernel
theorem dL_law_253 : decode cL_law 253 = .ok (.iload_n 3, 1) := by decide +kernel
theorem dL_law_254 : decode cL_law 254 = .ok (.iconst 1, 1) := by decide +kernel
theorem dL_law_255 : decode cL_law 255 = .ok (.iadd, 1) := by decide +kernel
theorem dL_law_256 : decode cL_law 256 = .ok (.iaload, 1) := by decide +kernel
theorem dL_law_257 : decode cL_law 257 = .ok (.invokevirtual 27, 3) := by decide +kernel
theorem dL_law_260 : decode cL_law 260 = .ok (.pop, 1) := by decide +kernel
theorem dL_law_261 : decode cL_law 261 = .ok (.aload_n 2, 1) := by decide +kernel
theorem dL_law_262 : decode cL_law 262 = .ok (.aload_n 0, 1) := by decide +kernel
theorem dL_law_263 : decode cL_law 263 = .ok (.iload_n 3, 1) := by decide +kernel
theorem dL_law_264 : decode cL_law 264 = .ok (.iconst 1, 1) := by decide +kernel
theorem dL_law_265 : decode cL_law 265 = .ok (.iadd, 1) := by decide +kernel
theorem dL_law_266 : decode cL_law 266 = .ok (.iaload, 1) := by decide +kernel
theorem dL_law_267 : decode cL_law 267 = .ok (.invokevirtual 30, 3) := by decide +kernel
theorem dL_law_270 : decode cL_law 270 = .ok (.pop, 1) := by decide +kernel
theorem dL_law_271 : decode cL_law 271 = .ok (.goto 591, 3) := by decide +kernel
theorem dL_law_274 : decode cL_law 274 = .ok (.aload_n 1, 1) := by decide +kernel
theorem dL_law_275 : decode cL_law 275 = .ok (.aload_n 0, 1) := by decide +kernel
theorem dL_law_276 : decode cL_law 276 = .ok (.iload_n 3, 1) := by decide +kernel
theorem dL_law_277 : decode cL_law 277 = .ok (.iconst 1, 1) := by decide +kernel
theorem dL_law_278 : decode cL_law 278 = .ok (.iadd, 1) := by decide +kernel
theorem dL_law_279 : decode cL_law 279 = .ok (.iaload, 1) := by decide +kernel
theorem dL_law_280 : decode cL_law 280 = .ok (.aload_n 0, 1) := by decide +kernel
theorem dL_law_281 : decode cL_law 281 = .ok (.iload_n 3, 1) := by decide +kernel
theorem dL_law_282 : decode cL_law 282 = .ok (.iconst 2, 1) := by decide +kernel
theorem dL_law_283 : decode cL_law 283 = .ok (.iadd, 1) := by decide +kernel
theorem dL_law_284 : decode cL_law 284 = .ok (.iaload, 1) := by decide +kernel
theorem dL_law_285 : decode cL_law 285 = .ok (.aload_n 0, 1) := by decide +kernel
theorem dL_law_286 : decode cL_law 286 = .ok (.iload_n 3, 1) := by decide +kernel
theorem dL_law_287 : decode cL_law 287 = .ok (.iconst 3, 1) := by decide +kernel
theorem dL_law_288 : decode cL_law 288 = .ok (.iadd, 1) := by decide +kernel
theorem dL_law_289 : decode cL_law 289 = .ok (.iaload, 1) := by decide +kernel
theorem dL_law_290 : decode cL_law 290 = .ok (.invokevirtual 31, 3) := by decide +kernel
theorem dL_law_293 : decode cL_law 293 = .ok (.pop, 1) := by decide +kernel
theorem dL_law_294 : decode cL_law 294 = .ok (.aload_n 2, 1) := by decide +kernel
theorem dL_law_295 : decode cL_law 295 = .ok (.aload_n 0, 1) := by decide +kernel
theorem dL_law_296 : decode cL_law 296 = .ok (.iload_n 3, 1) := by decide +kernel
theorem dL_law_297 : decode cL_law 297 = .ok (.iconst 1, 1) := by decide +kernel
theorem dL_law_298 : decode cL_law 298 = .ok (.iadd, 1) := by decide +kernel
theorem dL_law_299 : decode cL_law 299 = .ok (.iaload, 1) := by decide +kernel
theorem dL_law_300 : decode cL_law 300 = .ok (.aload_n 0, 1) := by decide +kernel
theorem dL_law_301 : decode cL_law 301 = .ok (.iload_n 3, 1) := by decide +kernel
theorem dL_law_302 : decode cL_law 302 = .ok (.iconst 2, 1) := by decide +kernel
theorem dL_law_303 : decode cL_law 303 = .ok (.iadd, 1) := by decide +kernel
theorem dL_law_304 : decode cL_law 304 = .ok (.iaload, 1) := by decide +kernel
theorem dL_law_305 : decode cL_law 305 = .ok (.aload_n 0, 1) := by decide +kernel
theorem dL_law_306 : decode cL_law 306 = .ok (.iload_n 3, 1) := by decide +kernel
theorem dL_law_307 : decode cL_law 307 = .ok (.iconst 3, 1) := by decide +kernel
theorem dL_law_308 : decode cL_law 308 = .ok (.iadd, 1) := by decide +kernel
theorem dL_law_309 : decode cL_law 309 = .ok (.iaload, 1) := by decide +kernel
theorem dL_law_310 : decode cL_law 310 = .ok (.invokevirtual 35, 3) := by decide +kernel
theorem dL_law_313 : decode cL_law 313 = .ok (.pop, 1) := by decide +kernel
theorem dL_law_314 : decode cL_law 314 = .ok (.goto 548, 3) := by decide +kernel
theorem dL_law_317 : decode cL_law 317 = .ok (.aload_n 1, 1) := by decide +kernel
theorem dL_law_318 : decode cL_law 318 = .ok (.aload_n 0, 1) := by decide +kernel
theorem dL_law_319 : decode cL_law 319 = .ok (.iload_n 3, 1) := by decide +kernel
theorem dL_law_320 : decode cL_law 320 = .ok (.iconst 1, 1) := by decide +kernel
theorem dL_law_321 : decode cL_law 321 = .ok (.iadd, 1) := by decide +kernel
theorem dL_law_322 : decode cL_law 322 = .ok (.iaload, 1) := by decide +kernel
theorem dL_law_323 : decode cL_law 323 = .ok (.invokevirtual 36, 3) := by decide +kernel
theorem dL_law_326 : decode cL_law 326 = .ok (.pop, 1) := by decide +kernel
theorem dL_law_327 : decode cL_law 327 = .ok (.aload_n 2, 1) := by decide +kernel
theorem dL_law_328 : decode cL_law 328 = .ok (.aload_n 0, 1) := by decide +kernel
theorem dL_law_329 : decode cL_law 329 = .ok (.iload_n 3, 1) := by decide +kernel
theorem dL_law_330 : decode cL_law 330 = .ok (.iconst 1, 1) := by decide +kernel
theorem dL_law_331 : decode cL_law 331 = .ok (.iadd, 1) := by decide +kernel
theorem dL_law_332 : decode cL_law 332 = .ok (.iaload, 1) := by decide +kernel
theorem dL_law_333 : decode cL_law 333 = .ok (.invokevirtual 39, 3) := by decide +kernel
theorem dL_law_336 : decode cL_law 336 = .ok (.pop, 1) := by decide +kernel
theorem dL_law_337 : decode cL_law 337 = .ok (.goto 525, 3) := by decide +kernel
theorem dL_law_340 : decode cL_law 340 = .ok (.aload_n 1, 1) := by decide +kernel
theorem dL_law_341 : decode cL_law 341 = .ok (.aload_n 0, 1) := by decide +kernel
theorem dL_law_342 : decode cL_law 342 = .ok (.iload_n 3, 1) := by decide +kernel
theorem dL_law_343 : decode cL_law 343 = .ok (.iconst 1, 1) := by decide +kernel
theorem dL_law_344 : decode cL_law 344 = .ok (.iadd, 1) := by decide +kernel
theorem dL_law_345 : decode cL_law 345 = .ok (.iaload, 1) := by decide +kernel
theorem dL_law_346 : decode cL_law 346 = .ok (.aload_n 0, 1) := by decide +kernel
theorem dL_law_347 : decode cL_law 347 = .ok (.iload_n 3, 1) := by decide +kernel
theorem dL_law_348 : decode cL_law 348 = .ok (.iconst 2, 1) := by decide +kernel
theorem dL_law_349 : decode cL_law 349 = .ok (.iadd, 1) := by decide +kernel
theorem dL_law_350 : decode cL_law 350 = .ok (.iaload, 1) := by decide +kernel
theorem dL_law_351 : decode cL_law 351 = .ok (.invokevirtual 40, 3) := by decide +kernel
theorem dL_law_354 : decode cL_law 354 = .ok (.pop, 1) := by decide +kernel
theorem dL_law_355 : decode cL_law 355 = .ok (.aload_n 2, 1) := by decide +kernel
theorem dL_law_356 : decode cL_law 356 = .ok (.aload_n 0, 1) := by decide +kernel
theorem dL_law_357 : decode cL_law 357 = .ok (.iload_n 3, 1) := by decide +kernel
theorem dL_law_358 : decode cL_law 358 = .ok (.iconst 1, 1) := by decide +kernel
theorem dL_law_359 : decode cL_law 359 = .ok (.iadd, 1) := by decide +kernel
theorem dL_law_360 : decode cL_law 360 = .ok (.iaload, 1) := by decide +kernel
theorem dL_law_361 : decode cL_law 361 = .ok (.aload_n 0, 1) := by decide +kernel
theorem dL_law_362 : decode cL_law 362 = .ok (.iload_n 3, 1) := by decide +kernel
theorem dL_law_363 : decode cL_law 363 = .ok (.iconst 2, 1) := by decide +kernel
theorem dL_law_364 : decode cL_law 364 = .ok (.iadd, 1) := by decide +kernel
theorem dL_law_365 : decode cL_law 365 = .ok (.iaload, 1) := by decide +kernel
theorem dL_law_366 : decode cL_law 366 = .ok (.invokevirtual 44, 3) := by decide +kernel
theorem dL_law_369 : decode cL_law 369 = .ok (.pop, 1) := by decide +kernel
theorem dL_law_370 : decode cL_law 370 = .ok (.goto 492, 3) := by decide +kernel
theorem dL_law_373 : decode cL_law 373 = .ok (.aload_n 1, 1) := by decide +kernel
theorem dL_law_374 : decode cL_law 374 = .ok (.invokevirtual 45, 3) := by decide +kernel
theorem dL_law_377 : decode cL_law 377 = .ok (.pop, 1) := by decide +kernel
theorem dL_law_378 : decode cL_law 378 = .ok (.aload_n 2, 1) := by decide +kernel
theorem dL_law_379 : decode cL_law 379 = .ok (.invokevirtual 49, 3) := by decide +kernel
theorem dL_law_382 : decode cL_law 382 = .ok (.pop, 1) := by decide +kernel
theorem dL_law_383 : decode cL_law 383 = .ok (.goto 479, 3) := by decide +kernel
theorem dL_law_386 : decode cL_law 386 = .ok (.aload_n 1, 1) := by decide +kernel
theorem dL_law_387 : decode cL_law 387 = .ok (.aload_n 0, 1) := by decide +kernel
theorem dL_law_388 : decode cL_law 388 = .ok (.iload_n 3, 1) := by decide +kernel
theorem dL_law_389 : decode cL_law 389 = .ok (.iconst 1, 1) := by decide +kernel
theorem dL_law_390 : decode cL_law 390 = .ok (.iadd, 1) := by decide +kernel
theorem dL_law_391 : decode cL_law 391 = .ok (.iaload, 1) := by decide +kernel
theorem dL_law_392 : decode cL_law 392 = .ok (.aload_n 0, 1) := by decide +kernel
theorem dL_law_393 : decode cL_law 393 = .ok (.iload_n 3, 1) := by decide +kernel
theorem dL_law_394 : decode cL_law 394 = .ok (.iconst 2, 1) := by decide +kernel
theorem dL_law_395 : decode cL_law 395 = .ok (.iadd, 1) := by decide +kernel
theorem dL_law_396 : decode cL_law 396 = .ok (.iaload, 1) := by decide +kernel
theorem dL_law_397 : decode cL_law 397 = .ok (.aload_n 0, 1) := by decide +kernel
theorem dL_law_398 : decode cL_law 398 = .ok (.iload_n 3, 1) := by decide +kernel
theorem dL_law_399 : decode cL_law 399 = .ok (.iconst 3, 1) := by decide +kernel
theorem dL_law_400 : decode cL_law 400 = .ok (.iadd, 1) := by decide +kernel
theorem dL_law_401 : decode cL_law 401 = .ok (.iaload, 1) := by decide +kernel
theorem dL_law_402 : decode cL_law 402 = .ok (.invokevirtual 50, 3) := by decide +kernel
theorem dL_law_405 : decode cL_law 405 = .ok (.pop, 1) := by decide +kernel
theorem dL_law_406 : decode cL_law 406 = .ok (.aload_n 2, 1) := by decide +kernel
theorem dL_law_407 : decode cL_law 407 = .ok (.aload_n 0, 1) := by decide +kernel
theorem dL_law_408 : decode cL_law 408 = .ok (.iload_n 3, 1) := by decide +kernel
theorem dL_law_409 : decode cL_law 409 = .ok (.iconst 1, 1) := by decide +kernel
theorem dL_law_410 : decode cL_law 410 = .ok (.iadd, 1) := by decide +kernel
theorem dL_law_411 : decode cL_law 411 = .ok (.iaload, 1) := by decide +kernel
theorem dL_law_412 : decode cL_law 412 = .ok (.aload_n 0, 1) := by decide +kernel
theorem dL_law_413 : decode cL_law 413 = .ok (.iload_n 3, 1) := by decide +kernel
theorem dL_law_414 : decode cL_law 414 = .ok (.iconst 2, 1) := by decide +kernel
theorem dL_law_415 : decode cL_law 415 = .ok (.iadd, 1) := by decide +kernel
theorem dL_law_416 : decode cL_law 416 = .ok (.iaload, 1) := by decide +kernel
theorem dL_law_417 : decode cL_law 417 = .ok (.aload_n 0, 1) := by decide +kernel
theorem dL_law_418 : decode cL_law 418 = .ok (.iload_n 3, 1) := by decide +kernel
theorem dL_law_419 : decode cL_law 419 = .ok (.iconst 3, 1) := by decide +kernel
theorem dL_law_420 : decode cL_law 420 = .ok (.iadd, 1) := by decide +kernel
theorem dL_law_421 : decode cL_law 421 = .ok (.iaload, 1) := by decide +kernel
theorem dL_law_422 : decode cL_law 422 = .ok (.invokevirtual 53, 3) := by decide +kernel
theorem dL_law_425 : decode cL_law 425 = .ok (.pop, 1) := by decide +kernel
theorem dL_law_426 : decode cL_law 426 = .ok (.goto 436, 3) := by decide +kernel
theorem dL_law_429 : decode cL_law 429 = .ok (.aload_n 1, 1) := by decide +kernel
theorem dL_law_430 : decode cL_law 430 = .ok (.aload_n 0, 1) := by decide +kernel
theorem dL_law_431 : decode cL_law 431 = .ok (.iload_n 3, 1) := by decide +kernel
theorem dL_law_432 : decode cL_law 432 = .ok (.iconst 1, 1) := by decide +kernel
theorem dL_law_433 : decode cL_law 433 = .ok (.iadd, 1) := by decide +kernel
theorem dL_law_434 : decode cL_law 434 = .ok (.iaload, 1) := by decide +kernel
theorem dL_law_435 : decode cL_law 435 = .ok (.invokevirtual 54, 3) := by decide +kernel
theorem dL_law_438 : decode cL_law 438 = .ok (.pop, 1) := by decide +kernel
theorem dL_law_439 : decode cL_law 439 = .ok (.aload_n 2, 1) := by decide +kernel
theorem dL_law_440 : decode cL_law 440 = .ok (.aload_n 0, 1) := by decide +kernel
theorem dL_law_441 : decode cL_law 441 = .ok (.iload_n 3, 1) := by decide +kernel
theorem dL_law_442 : decode cL_law 442 = .ok (.iconst 1, 1) := by decide +kernel
theorem dL_law_443 : decode cL_law 443 = .ok (.iadd, 1) := by decide +kernel
theorem dL_law_444 : decode cL_law 444 = .ok (.iaload, 1) := by decide +kernel
theorem dL_law_445 : decode cL_law 445 = .ok (.invokevirtual 57, 3) := by decide +kernel
theorem dL_law_448 : decode cL_law 448 = .ok (.pop, 1) := by decide +kernel
theorem dL_law_449 : decode cL_law 449 = .ok (.goto 413, 3) := by decide +kernel
theorem dL_law_452 : decode cL_law 452 = .ok (.aload_n 1, 1) := by decide +kernel
theorem dL_law_453 : decode cL_law 453 = .ok (.aload_n 0, 1) := by decide +kernel
theorem dL_law_454 : decode cL_law 454 = .ok (.iload_n 3, 1) := by decide +kernel
theorem dL_law_455 : decode cL_law 455 = .ok (.iconst 1, 1) := by decide +kernel
theorem dL_law_456 : decode cL_law 456 = .ok (.iadd, 1) := by decide +kernel
theorem dL_law_457 : decode cL_law 457 = .ok (.iaload, 1) := by decide +kernel
theorem dL_law_458 : decode cL_law 458 = .ok (.invokevirtual 58, 3) := by decide +kernel
theorem dL_law_461 : decode cL_law 461 = .ok (.pop, 1) := by decide +kernel
theorem dL_law_462 : decode cL_law 462 = .ok (.aload_n 2, 1) := by decide +kernel
theorem dL_law_463 : decode cL_law 463 = .ok (.aload_n 0, 1) := by decide +kernel
theorem dL_law_464 : decode cL_law 464 = .ok (.iload_n 3, 1) := by decide +kernel
theorem dL_law_465 : decode cL_law 465 = .ok (.iconst 1, 1) := by decide +kernel
theorem dL_law_466 : decode cL_law 466 = .ok (.iadd, 1) := by decide +kernel
theorem dL_law_467 : decode cL_law 467 = .ok (.iaload, 1) := by decide +kernel
theorem dL_law_468 : decode cL_law 468 = .ok (.invokevirtual 61, 3) := by decide +kernel
theorem dL_law_471 : decode cL_law 471 = .ok (.pop, 1) := by decide +kernel
theorem dL_law_472 : decode cL_law 472 = .ok (.goto 390, 3) := by decide +kernel
theorem dL_law_475 : decode cL_law 475 = .ok (.aload_n 1, 1) := by decide +kernel
theorem dL_law_476 : decode cL_law 476 = .ok (.aload_n 0, 1) := by decide +kernel
theorem dL_law_477 : decode cL_law 477 = .ok (.iload_n 3, 1) := by decide +kernel
theorem dL_law_478 : decode cL_law 478 = .ok (.iconst 1, 1) := by decide +kernel
theorem dL_law_479 : decode cL_law 479 = .ok (.iadd, 1) := by decide +kernel
theorem dL_law_480 : decode cL_law 480 = .ok (.iaload, 1) := by decide +kernel
theorem dL_law_481 : decode cL_law 481 = .ok (.i2c, 1) := by decide +kernel
theorem dL_law_482 : decode cL_law 482 = .ok (.invokevirtual 62, 3) := by decide +kernel
theorem dL_law_485 : decode cL_law 485 = .ok (.pop, 1) := by decide +kernel
theorem dL_law_486 : decode cL_law 486 = .ok (.aload_n 2, 1) := by decide +kernel
theorem dL_law_487 : decode cL_law 487 = .ok (.aload_n 0, 1) := by decide +kernel
theorem dL_law_488 : decode cL_law 488 = .ok (.iload_n 3, 1) := by decide +kernel
theorem dL_law_489 : decode cL_law 489 = .ok (.iconst 1, 1) := by decide +kernel
theorem dL_law_490 : decode cL_law 490 = .ok (.iadd, 1) := by decide +kernel
theorem dL_law_491 : decode cL_law 491 = .ok (.iaload, 1) := by decide +kernel
theorem dL_law_492 : decode cL_law 492 = .ok (.i2c, 1) := by decide +kernel
theorem dL_law_493 : decode cL_law 493 = .ok (.invokevirtual 66, 3) := by decide +kernel
theorem dL_law_496 : decode cL_law 496 = .ok (.pop, 1) := by decide +kernel
theorem dL_law_497 : decode cL_law 497 = .ok (.goto 365, 3) := by decide +kernel
theorem dL_law_500 : decode cL_law 500 = .ok (.aload_n 1, 1) := by decide +kernel
theorem dL_law_501 : decode cL_law 501 = .ok (.invokevirtual 67, 3) := by decide +kernel
theorem dL_law_504 : decode cL_law 504 = .ok (.pop, 1) := by decide +kernel
theorem dL_law_505 : decode cL_law 505 = .ok (.aload_n 2, 1) := by decide +kernel
theorem dL_law_506 : decode cL_law 506 = .ok (.invokevirtual 70, 3) := by decide +kernel
theorem dL_law_509 : decode cL_law 509 = .ok (.pop, 1) := by decide +kernel
theorem dL_law_510 : decode cL_law 510 = .ok (.goto 352, 3) := by decide +kernel
theorem dL_law_513 : decode cL_law 513 = .ok (.aload_n 1, 1) := by decide +kernel
theorem dL_law_514 : decode cL_law 514 = .ok (.invokevirtual 71, 3) := by decide +kernel
theorem dL_law_517 : decode cL_law 517 = .ok (.pop, 1) := by decide +kernel
theorem dL_law_518 : decode cL_law 518 = .ok (.aload_n 2, 1) := by decide +kernel
theorem dL_law_519 : decode cL_law 519 = .ok (.invokevirtual 74, 3) := by decide +kernel
theorem dL_law_522 : decode cL_law 522 = .ok (.pop, 1) := by decide +kernel
theorem dL_law_523 : decode cL_law 523 = .ok (.goto 339, 3) := by decide +kernel
theorem dL_law_526 : decode cL_law 526 = .ok (.aload_n 1, 1) := by decide +kernel
theorem dL_law_527 : decode cL_law 527 = .ok (.invokevirtual 75, 3) := by decide +kernel
theorem dL_law_530 : decode cL_law 530 = .ok (.pop, 1) := by decide +kernel
theorem dL_law_531 : decode cL_law 531 = .ok (.aload_n 2, 1) := by decide +kernel
theorem dL_law_532 : decode cL_law 532 = .ok (.invokevirtual 78, 3) := by decide +kernel
theorem dL_law_535 : decode cL_law 535 = .ok (.pop, 1) := by decide +kernel
theorem dL_law_536 : decode cL_law 536 = .ok (.goto 326, 3) := by decide +kernel
theorem dL_law_539 : decode cL_law 539 = .ok (.aload_n 1, 1) := by decide +kernel
theorem dL_law_540 : decode cL_law 540 = .ok (.invokevirtual 79, 3) := by decide +kernel
theorem dL_law_543 : decode cL_law 543 = .ok (.pop, 1) := by decide +kernel
theorem dL_law_544 : decode cL_law 544 = .ok (.aload_n 2, 1) := by decide +kernel
theorem dL_law_545 : decode cL_law 545 = .ok (.invokevirtual 82, 3) := by decide +kernel
theorem dL_law_548 : decode cL_law 548 = .ok (.pop, 1) := by decide +kernel
theorem dL_law_549 : decode cL_law 549 = .ok (.goto 313, 3) := by decide +kernel
theorem dL_law_552 : decode cL_law 552 = .ok (.aload_n 1, 1) := by decide +kernel
theorem dL_law_553 : decode cL_law 553 = .ok (.invokevirtual 83, 3) := by decide +kernel
theorem dL_law_556 : decode cL_law 556 = .ok (.pop, 1) := by decide +kernel
theorem dL_law_557 : decode cL_law 557 = .ok (.aload_n 2, 1) := by decide +kernel
theorem dL_law_558 : decode cL_law 558 = .ok (.invokevirtual 86, 3) := by decide +kernel
theorem dL_law_561 : decode cL_law 561 = .ok (.pop, 1) := by decide +kernel
theorem dL_law_562 : decode cL_law 562 = .ok (.goto 300, 3) := by decide +kernel
theorem dL_law_565 : decode cL_law 565 = .ok (.aload_n 1, 1) := by decide +kernel
theorem dL_law_566 : decode cL_law 566 = .ok (.aload_n 0, 1) := by decide +kernel
theorem dL_law_567 : decode cL_law 567 = .ok (.iload_n 3, 1) := by decide +kernel
theorem dL_law_568 : decode cL_law 568 = .ok (.iconst 1, 1) := by decide +kernel
theorem dL_law_569 : decode cL_law 569 = .ok (.iadd, 1) := by decide +kernel
theorem dL_law_570 : decode cL_law 570 = .ok (.iaload, 1) := by decide +kernel
theorem dL_law_571 : decode cL_law 571 = .ok (.aload_n 0, 1) := by decide +kernel
theorem dL_law_572 : decode cL_law 572 = .ok (.iload_n 3, 1) := by decide +kernel
theorem dL_law_573 : decode cL_law 573 = .ok (.iconst 2, 1) := by decide +kernel
theorem dL_law_574 : decode cL_law 574 = .ok (.iadd, 1) := by decide +kernel
theorem dL_law_575 : decode cL_law 575 = .ok (.iaload, 1) := by decide +kernel
theorem dL_law_576 : decode cL_law 576 = .ok (.invokevirtual 87, 3) := by decide +kernel
theorem dL_law_579 : decode cL_law 579 = .ok (.pop, 1) := by decide +kernel
theorem dL_law_580 : decode cL_law 580 = .ok (.aload_n 2, 1) := by decide +kernel
theorem dL_law_581 : decode cL_law 581 = .ok (.aload_n 0, 1) := by decide +kernel
theorem dL_law_582 : decode cL_law 582 = .ok (.iload_n 3, 1) := by decide +kernel
theorem dL_law_583 : decode cL_law 583 = .ok (.iconst 1, 1) := by decide +kernel
theorem dL_law_584 : decode cL_law 584 = .ok (.iadd, 1) := by decide +kernel
theorem dL_law_585 : decode cL_law 585 = .ok (.iaload, 1) := by decide +kernel
theorem dL_law_586 : decode cL_law 586 = .ok (.aload_n 0, 1) := by decide +kernel
theorem dL_law_587 : decode cL_law 587 = .ok (.iload_n 3, 1) := by decide +kernel
theorem dL_law_588 : decode cL_law 588 = .ok (.iconst 2, 1) := by decide +kernel
theorem dL_law_589 : decode cL_law 589 = .ok (.iadd, 1) := by decide +kernel
theorem dL_law_590 : decode cL_law 590 = .ok (.iaload, 1) := by decide +kernel
theorem dL_law_591 : decode cL_law 591 = .ok (.invokevirtual 90, 3) := by decide +kernel
theorem dL_law_594 : decode cL_law 594 = .ok (.pop, 1) := by decide +kernel
theorem dL_law_595 : decode cL_law 595 = .ok (.goto 267, 3) := by decide +kernel
theorem dL_law_598 : decode cL_law 598 = .ok (.aload_n 1, 1) := by decide +kernel
theorem dL_law_599 : decode cL_law 599 = .ok (.aload_n 0, 1) := by decide +kernel
theorem dL_law_600 : decode cL_law 600 = .ok (.iload_n 3, 1) := by decide +kernel
theorem dL_law_601 : decode cL_law 601 = .ok (.iconst 1, 1) := by decide +kernel
theorem dL_law_602 : decode cL_law 602 = .ok (.iadd, 1) := by decide +kernel
theorem dL_law_603 : decode cL_law 603 = .ok (.iaload, 1) := by decide +kernel
theorem dL_law_604 : decode cL_law 604 = .ok (.aload_n 0, 1) := by decide +kernel
theorem dL_law_605 : decode cL_law 605 = .ok (.iload_n 3, 1) := by decide +kernel
theorem dL_law_606 : decode cL_law 606 = .ok (.iconst 2, 1) := by decide +kernel
theorem dL_law_607 : decode cL_law 607 = .ok (.iadd, 1) := by decide +kernel
theorem dL_law_608 : decode cL_law 608 = .ok (.iaload, 1) := by decide +kernel
theorem dL_law_609 : decode cL_law 609 = .ok (.invokevirtual 91, 3) := by decide +kernel
theorem dL_law_612 : decode cL_law 612 = .ok (.pop, 1) := by decide +kernel
theorem dL_law_613 : decode cL_law 613 = .ok (.aload_n 2, 1) := by decide +kernel
theorem dL_law_614 : decode cL_law 614 = .ok (.aload_n 0, 1) := by decide +kernel
theorem dL_law_615 : decode cL_law 615 = .ok (.iload_n 3, 1) := by decide +kernel
theorem dL_law_616 : decode cL_law 616 = .ok (.iconst 1, 1) := by decide +kernel
theorem dL_law_617 : decode cL_law 617 = .ok (.iadd, 1) := by decide +kernel
theorem dL_law_618 : decode cL_law 618 = .ok (.iaload, 1) := by decide +kernel
theorem dL_law_619 : decode cL_law 619 = .ok (.aload_n 0, 1) := by decide +kernel
theorem dL_law_620 : decode cL_law 620 = .ok (.iload_n 3, 1) := by decide +kernel
theorem dL_law_621 : decode cL_law 621 = .ok (.iconst 2, 1) := by decide +kernel
theorem dL_law_622 : decode cL_law 622 = .ok (.iadd, 1) := by decide +kernel
theorem dL_law_623 : decode cL_law 623 = .ok (.iaload, 1) := by decide +kernel
theorem dL_law_624 : decode cL_law 624 = .ok (.invokevirtual 94, 3) := by decide +kernel
theorem dL_law_627 : decode cL_law 627 = .ok (.pop, 1) := by decide +kernel
theorem dL_law_628 : decode cL_law 628 = .ok (.goto 234, 3) := by decide +kernel
theorem dL_law_631 : decode cL_law 631 = .ok (.aload_n 1, 1) := by decide +kernel
theorem dL_law_632 : decode cL_law 632 = .ok (.aload_n 0, 1) := by decide +kernel
theorem dL_law_633 : decode cL_law 633 = .ok (.iload_n 3, 1) := by decide +kernel
theorem dL_law_634 : decode cL_law 634 = .ok (.iconst 1, 1) := by decide +kernel
theorem dL_law_635 : decode cL_law 635 = .ok (.iadd, 1) := by decide +kernel
theorem dL_law_636 : decode cL_law 636 = .ok (.iaload, 1) := by decide +kernel
theorem dL_law_637 : decode cL_law 637 = .ok (.aload_n 0, 1) := by decide +kernel
theorem dL_law_638 : decode cL_law 638 = .ok (.iload_n 3, 1) := by decide +kernel
theorem dL_law_639 : decode cL_law 639 = .ok (.iconst 2, 1) := by decide +kernel
theorem dL_law_640 : decode cL_law 640 = .ok (.iadd, 1) := by decide +kernel
theorem dL_law_641 : decode cL_law 641 = .ok (.iaload, 1) := by decide +kernel
theorem dL_law_642 : decode cL_law 642 = .ok (.invokevirtual 95, 3) := by decide +kernel
theorem dL_law_645 : decode cL_law 645 = .ok (.pop, 1) := by decide +kernel
theorem dL_law_646 : decode cL_law 646 = .ok (.aload_n 2, 1) := by decide +kernel
theorem dL_law_647 : decode cL_law 647 = .ok (.aload_n 0, 1) := by decide +kernel
theorem dL_law_648 : decode cL_law 648 = .ok (.iload_n 3, 1) := by decide +kernel
theorem dL_law_649 : decode cL_law 649 = .ok (.iconst 1, 1) := by decide +kernel
theorem dL_law_650 : decode cL_law 650 = .ok (.iadd, 1) := by decide +kernel
theorem dL_law_651 : decode cL_law 651 = .ok (.iaload, 1) := by decide +kernel
theorem dL_law_652 : decode cL_law 652 = .ok (.aload_n 0, 1) := by decide +kernel
theorem dL_law_653 : decode cL_law 653 = .ok (.iload_n 3, 1) := by decide +kernel
theorem dL_law_654 : decode cL_law 654 = .ok (.iconst 2, 1) := by decide +kernel
theorem dL_law_655 : decode cL_law 655 = .ok (.iadd, 1) := by decide +kernel
theorem dL_law_656 : decode cL_law 656 = .ok (.iaload, 1) := by decide +kernel
theorem dL_law_657 : decode cL_law 657 = .ok (.invokevirtual 98, 3) := by decide +kernel
theorem dL_law_660 : decode cL_law 660 = .ok (.pop, 1) := by decide +kernel
theorem dL_law_661 : decode cL_law 661 = .ok (.goto 201, 3) := by decide +kernel
theorem dL_law_664 : decode cL_law 664 = .ok (.aload_n 1, 1) := by decide +kernel
theorem dL_law_665 : decode cL_law 665 = .ok (.aload_n 0, 1) := by decide +kernel
theorem dL_law_666 : decode cL_law 666 = .ok (.iload_n 3, 1) := by decide +kernel
theorem dL_law_667 : decode cL_law 667 = .ok (.iconst 1, 1) := by decide +kernel
theorem dL_law_668 : decode cL_law 668 = .ok (.iadd, 1) := by decide +kernel
theorem dL_law_669 : decode cL_law 669 = .ok (.iaload, 1) := by decide +kernel
theorem dL_law_670 : decode cL_law 670 = .ok (.aload_n 0, 1) := by decide +kernel
theorem dL_law_671 : decode cL_law 671 = .ok (.iload_n 3, 1) := by decide +kernel
theorem dL_law_672 : decode cL_law 672 = .ok (.iconst 2, 1) := by decide +kernel
theorem dL_law_673 : decode cL_law 673 = .ok (.iadd, 1) := by decide +kernel
theorem dL_law_674 : decode cL_law 674 = .ok (.iaload, 1) := by decide +kernel
theorem dL_law_675 : decode cL_law 675 = .ok (.invokevirtual 99, 3) := by decide +kernel
theorem dL_law_678 : decode cL_law 678 = .ok (.pop, 1) := by decide +kernel
theorem dL_law_679 : decode cL_law 679 = .ok (.aload_n 2, 1) := by decide +kernel
theorem dL_law_680 : decode cL_law 680 = .ok (.aload_n 0, 1) := by decide +kernel
theorem dL_law_681 : decode cL_law 681 = .ok (.iload_n 3, 1) := by decide +kernel
theorem dL_law_682 : decode cL_law 682 = .ok (.iconst 1, 1) := by decide +kernel
theorem dL_law_683 : decode cL_law 683 = .ok (.iadd, 1) := by decide +kernel
theorem dL_law_684 : decode cL_law 684 = .ok (.iaload, 1) := by decide +kernel
theorem dL_law_685 : decode cL_law 685 = .ok (.aload_n 0, 1) := by decide +kernel
theorem dL_law_686 : decode cL_law 686 = .ok (.iload_n 3, 1) := by decide +kernel
theorem dL_law_687 : decode cL_law 687 = .ok (.iconst 2, 1) := by decide +kernel
theorem dL_law_688 : decode cL_law 688 = .ok (.iadd, 1) := by decide +kernel
theorem dL_law_689 : decode cL_law 689 = .ok (.iaload, 1) := by decide +kernel
theorem dL_law_690 : decode cL_law 690 = .ok (.invokevirtual 102, 3) := by decide +kernel
theorem dL_law_693 : decode cL_law 693 = .ok (.pop, 1) := by decide +kernel
theorem dL_law_694 : decode cL_law 694 = .ok (.goto 168, 3) := by decide +kernel
theorem dL_law_697 : decode cL_law 697 = .ok (.aload_n 1, 1) := by decide +kernel
theorem dL_law_698 : decode cL_law 698 = .ok (.aload_n 0, 1) := by decide +kernel
theorem dL_law_699 : decode cL_law 699 = .ok (.iload_n 3, 1) := by decide +kernel
theorem dL_law_700 : decode cL_law 700 = .ok (.iconst 1, 1) := by decide +kernel
theorem dL_law_701 : decode cL_law 701 = .ok (.iadd, 1) := by decide +kernel
theorem dL_law_702 : decode cL_law 702 = .ok (.iaload, 1) := by decide +kernel
theorem dL_law_703 : decode cL_law 703 = .ok (.invokevirtual 103, 3) := by decide +kernel
theorem dL_law_706 : decode cL_law 706 = .ok (.pop, 1) := by decide +kernel
theorem dL_law_707 : decode cL_law 707 = .ok (.aload_n 2, 1) := by decide +kernel
theorem dL_law_708 : decode cL_law 708 = .ok (.aload_n 0, 1) := by decide +kernel
theorem dL_law_709 : decode cL_law 709 = .ok (.iload_n 3, 1) := by decide +kernel
theorem dL_law_710 : decode cL_law 710 = .ok (.iconst 1, 1) := by decide +kernel
theorem dL_law_711 : decode cL_law 711 = .ok (.iadd, 1) := by decide +kernel
theorem dL_law_712 : decode cL_law 712 = .ok (.iaload, 1) := by decide +kernel
theorem dL_law_713 : decode cL_law 713 = .ok (.invokevirtual 106, 3) := by decide +kernel
theorem dL_law_716 : decode cL_law 716 = .ok (.pop, 1) := by decide +kernel
theorem dL_law_717 : decode cL_law 717 = .ok (.goto 145, 3) := by decide +kernel
theorem dL_law_720 : decode cL_law 720 = .ok (.aload_n 1, 1) := by decide +kernel
theorem dL_law_721 : decode cL_law 721 = .ok (.aload_n 0, 1) := by decide +kernel
theorem dL_law_722 : decode cL_law 722 = .ok (.iload_n 3, 1) := by decide +kernel
theorem dL_law_723 : decode cL_law 723 = .ok (.iconst 1, 1) := by decide +kernel
theorem dL_law_724 : decode cL_law 724 = .ok (.iadd, 1) := by decide +kernel
theorem dL_law_725 : decode cL_law 725 = .ok (.iaload, 1) := by decide +kernel
theorem dL_law_726 : decode cL_law 726 = .ok (.invokevirtual 107, 3) := by decide +kernel
theorem dL_law_729 : decode cL_law 729 = .ok (.pop, 1) := by decide +kernel
theorem dL_law_730 : decode cL_law 730 = .ok (.aload_n 2, 1) := by decide +kernel
theorem dL_law_731 : decode cL_law 731 = .ok (.aload_n 0, 1) := by decide +kernel
theorem dL_law_732 : decode cL_law 732 = .ok (.iload_n 3, 1) := by decide +kernel
theorem dL_law_733 : decode cL_law 733 = .ok (.iconst 1, 1) := by decide +kernel
theorem dL_law_734 : decode cL_law 734 = .ok (.iadd, 1) := by decide +kernel
theorem dL_law_735 : decode cL_law 735 = .ok (.iaload, 1) := by decide +kernel
theorem dL_law_736 : decode cL_law 736 = .ok (.invokevirtual 110, 3) := by decide +kernel
theorem dL_law_739 : decode cL_law 739 = .ok (.pop, 1) := by decide +kernel
theorem dL_law_740 : decode cL_law 740 = .ok (.goto 122, 3) := by decide +kernel
theorem dL_law_743 : decode cL_law 743 = .ok (.aload_n 1, 1) := by decide +kernel
theorem dL_law_744 : decode cL_law 744 = .ok (.aload_n 0, 1) := by decide +kernel
theorem dL_law_745 : decode cL_law 745 = .ok (.iload_n 3, 1) := by decide +kernel
theorem dL_law_746 : decode cL_law 746 = .ok (.iconst 1, 1) := by decide +kernel
theorem dL_law_747 : decode cL_law 747 = .ok (.iadd, 1) := by decide +kernel
theorem dL_law_748 : decode cL_law 748 = .ok (.iaload, 1) := by decide +kernel
theorem dL_law_749 : decode cL_law 749 = .ok (.aload_n 0, 1) := by decide +kernel
theorem dL_law_750 : decode cL_law 750 = .ok (.iload_n 3, 1) := by decide +kernel
theorem dL_law_751 : decode cL_law 751 = .ok (.iconst 2, 1) := by decide +kernel
theorem dL_law_752 : decode cL_law 752 = .ok (.iadd, 1) := by decide +kernel
theorem dL_law_753 : decode cL_law 753 = .ok (.iaload, 1) := by decide +kernel
theorem dL_law_754 : decode cL_law 754 = .ok (.aload_n 0, 1) := by decide +kernel
theorem dL_law_755 : decode cL_law 755 = .ok (.iload_n 3, 1) := by decide +kernel
theorem dL_law_756 : decode cL_law 756 = .ok (.iconst 3, 1) := by decide +kernel
theorem dL_law_757 : decode cL_law 757 = .ok (.iadd, 1) := by decide +kernel
theorem dL_law_758 : decode cL_law 758 = .ok (.iaload, 1) := by decide +kernel
theorem dL_law_759 : decode cL_law 759 = .ok (.aload_n 0, 1) := by decide +kernel
theorem dL_law_760 : decode cL_law 760 = .ok (.iload_n 3, 1) := by decide +kernel
theorem dL_law_761 : decode cL_law 761 = .ok (.iconst 4, 1) := by decide +kernel
theorem dL_law_762 : decode cL_law 762 = .ok (.iadd, 1) := by decide +kernel
theorem dL_law_763 : decode cL_law 763 = .ok (.iaload, 1) := by decide +kernel
theorem dL_law_764 : decode cL_law 764 = .ok (.invokevirtual 111, 3) := by decide +kernel
theorem dL_law_767 : decode cL_law 767 = .ok (.pop, 1) := by decide +kernel
theorem dL_law_768 : decode cL_law 768 = .ok (.aload_n 2, 1) := by decide +kernel
theorem dL_law_769 : decode cL_law 769 = .ok (.aload_n 0, 1) := by decide +kernel
theorem dL_law_770 : decode cL_law 770 = .ok (.iload_n 3, 1) := by decide +kernel
theorem dL_law_771 : decode cL_law 771 = .ok (.iconst 1, 1) := by decide +kernel
theorem dL_law_772 : decode cL_law 772 = .ok (.iadd, 1) := by decide +kernel
theorem dL_law_773 : decode cL_law 773 = .ok (.iaload, 1) := by decide +kernel
theorem dL_law_774 : decode cL_law 774 = .ok (.aload_n 0, 1) := by decide +kernel
theorem dL_law_775 : decode cL_law 775 = .ok (.iload_n 3, 1) := by decide +kernel
theorem dL_law_776 : decode cL_law 776 = .ok (.iconst 2, 1) := by decide +kernel
theorem dL_law_777 : decode cL_law 777 = .ok (.iadd, 1) := by decide +kernel
theorem dL_law_778 : decode cL_law 778 = .ok (.iaload, 1) := by decide +kernel
theorem dL_law_779 : decode cL_law 779 = .ok (.aload_n 0, 1) := by decide +kernel
theorem dL_law_780 : decode cL_law 780 = .ok (.iload_n 3, 1) := by decide +kernel
theorem dL_law_781 : decode cL_law 781 = .ok (.iconst 3, 1) := by decide +kernel
theorem dL_law_782 : decode cL_law 782 = .ok (.iadd, 1) := by decide +kernel
theorem dL_law_783 : decode cL_law 783 = .ok (.iaload, 1) := by decide +kernel
theorem dL_law_784 : decode cL_law 784 = .ok (.aload_n 0, 1) := by decide +kernel
theorem dL_law_785 : decode cL_law 785 = .ok (.iload_n 3, 1) := by decide +kernel
theorem dL_law_786 : decode cL_law 786 = .ok (.iconst 4, 1) := by decide +kernel
theorem dL_law_787 : decode cL_law 787 = .ok (.iadd, 1) := by decide +kernel
theorem dL_law_788 : decode cL_law 788 = .ok (.iaload, 1) := by decide +kernel
theorem dL_law_789 : decode cL_law 789 = .ok (.invokevirtual 114, 3) := by decide +kernel
theorem dL_law_792 : decode cL_law 792 = .ok (.pop, 1) := by decide +kernel
theorem dL_law_793 : decode cL_law 793 = .ok (.goto 69, 3) := by decide +kernel
theorem dL_law_796 : decode cL_law 796 = .ok (.aload_n 1, 1) := by decide +kernel
theorem dL_law_797 : decode cL_law 797 = .ok (.aload_n 0, 1) := by decide +kernel
theorem dL_law_798 : decode cL_law 798 = .ok (.iload_n 3, 1) := by decide +kernel
theorem dL_law_799 : decode cL_law 799 = .ok (.iconst 1, 1) := by decide +kernel
theorem dL_law_800 : decode cL_law 800 = .ok (.iadd, 1) := by decide +kernel
theorem dL_law_801 : decode cL_law 801 = .ok (.iaload, 1) := by decide +kernel
theorem dL_law_802 : decode cL_law 802 = .ok (.aload_n 0, 1) := by decide +kernel
theorem dL_law_803 : decode cL_law 803 = .ok (.iload_n 3, 1) := by decide +kernel
theorem dL_law_804 : decode cL_law 804 = .ok (.iconst 2, 1) := by decide +kernel
theorem dL_law_805 : decode cL_law 805 = .ok (.iadd, 1) := by decide +kernel
theorem dL_law_806 : decode cL_law 806 = .ok (.iaload, 1) := by decide +kernel
theorem dL_law_807 : decode cL_law 807 = .ok (.aload_n 0, 1) := by decide +kernel
theorem dL_law_808 : decode cL_law 808 = .ok (.iload_n 3, 1) := by decide +kernel
theorem dL_law_809 : decode cL_law 809 = .ok (.iconst 3, 1) := by decide +kernel
theorem dL_law_810 : decode cL_law 810 = .ok (.iadd, 1) := by decide +kernel
theorem dL_law_811 : decode cL_law 811 = .ok (.iaload, 1) := by decide +kernel
theorem dL_law_812 : decode cL_law 812 = .ok (.invokevirtual 115, 3) := by decide +kernel
theorem dL_law_815 : decode cL_law 815 = .ok (.aload_n 2, 1) := by decide +kernel
theorem dL_law_816 : decode cL_law 816 = .ok (.aload_n 0, 1) := by decide +kernel
theorem dL_law_817 : decode cL_law 817 = .ok (.iload_n 3, 1) := by decide +kernel
theorem dL_law_818 : decode cL_law 818 = .ok (.iconst 1, 1) := by decide +kernel
theorem dL_law_819 : decode cL_law 819 = .ok (.iadd, 1) := by decide +kernel
theorem dL_law_820 : decode cL_law 820 = .ok (.iaload, 1) := by decide +kernel
theorem dL_law_821 : decode cL_law 821 = .ok (.aload_n 0, 1) := by decide +kernel
theorem dL_law_822 : decode cL_law 822 = .ok (.iload_n 3, 1) := by decide +kernel
theorem dL_law_823 : decode cL_law 823 = .ok (.iconst 2, 1) := by decide +kernel
theorem dL_law_824 : decode cL_law 824 = .ok (.iadd, 1) := by decide +kernel
theorem dL_law_825 : decode cL_law 825 = .ok (.iaload, 1) := by decide +kernel
theorem dL_law_826 : decode cL_law 826 = .ok (.aload_n 0, 1) := by decide +kernel
theorem dL_law_827 : decode cL_law 827 = .ok (.iload_n 3, 1) := by decide +kernel
theorem dL_law_828 : decode cL_law 828 = .ok (.iconst 3, 1) := by decide +kernel
theorem dL_law_829 : decode cL_law 829 = .ok (.iadd, 1) := by decide +kernel
theorem dL_law_830 : decode cL_law 830 = .ok (.iaload, 1) := by decide +kernel
theorem dL_law_831 : decode cL_law 831 = .ok (.invokevirtual 118, 3) := by decide +kernel
theorem dL_law_834 : decode cL_law 834 = .ok (.if_icmp .eq 28, 3) := by decide +kernel
theorem dL_law_837 : decode cL_law 837 = .ok (.iconst 0, 1) := by decide +kernel
theorem dL_law_838 : decode cL_law 838 = .ok (.ireturn, 1) := by decide +kernel
theorem dL_law_839 : decode cL_law 839 = .ok (.aload_n 1, 1) := by decide +kernel
theorem dL_law_840 : decode cL_law 840 = .ok (.aload_n 0, 1) := by decide +kernel
theorem dL_law_841 : decode cL_law 841 = .ok (.iload_n 3, 1) := by decide +kernel
theorem dL_law_842 : decode cL_law 842 = .ok (.iconst 1, 1) := by decide +kernel
theorem dL_law_843 : decode cL_law 843 = .ok (.iadd, 1) := by decide +kernel
theorem dL_law_844 : decode cL_law 844 = .ok (.iaload, 1) := by decide +kernel
theorem dL_law_845 : decode cL_law 845 = .ok (.invokevirtual 119, 3) := by decide +kernel
theorem dL_law_848 : decode cL_law 848 = .ok (.pop, 1) := by decide +kernel
theorem dL_law_849 : decode cL_law 849 = .ok (.aload_n 2, 1) := by decide +kernel
theorem dL_law_850 : decode cL_law 850 = .ok (.aload_n 0, 1) := by decide +kernel
theorem dL_law_851 : decode cL_law 851 = .ok (.iload_n 3, 1) := by decide +kernel
theorem dL_law_852 : decode cL_law 852 = .ok (.iconst 1, 1) := by decide +kernel
theorem dL_law_853 : decode cL_law 853 = .ok (.iadd, 1) := by decide +kernel
theorem dL_law_854 : decode cL_law 854 = .ok (.iaload, 1) := by decide +kernel
theorem dL_law_855 : decode cL_law 855 = .ok (.invokevirtual 122, 3) := by decide +kernel
theorem dL_law_858 : decode cL_law 858 = .ok (.pop, 1) := by decide +kernel
theorem dL_law_859 : decode cL_law 859 = .ok (.goto 3, 3) := by decide +kernel
theorem dL_law_862 : decode cL_law 862 = .ok (.iinc 3 5, 3) := by decide +kernel
theorem dL_law_865 : decode cL_law 865 = .ok (.goto (-847), 3) := by decide +kernel
theorem dL_law_868 : decode cL_law 868 = .ok (.iconst 1, 1) := by decide +kernel
theorem dL_law_869 : decode cL_law 869 = .ok (.ireturn, 1) := by decide +kernel
set_option maxRecDepth 20000 in
theorem gd_L_law_B862 {x : Cx} {y : Cy} (hy : Inj y) {b : Nat} (h : OkL x y b) {xs : Nat → Int32} {sL : Nat} (hX : va_X b sL xs x.1.2.2.2.2 x.1.2.2.2.2.heap) (hbl : b < x.1.2.2.2.2.heap.size) (kx1 : Mem → Ans) (kb : Int32 → Mem → Ans) (a3 : Int32) (hx1 : ∀ M0 : Mem, G x y 868 [] [] M0 (kx1 M0)) (hb : ∀ (b3 : Int32), ∀ M0 : Mem, G x y 18 [(0, .ref b), (1, .ref (y.2.1 141)), (2, .ref (y.2.1 143)), (3, .int b3)] [] M0 (kb b3 M0)) (M : Mem) : G x y 862 [(0, .ref b), (1, .ref (y.2.1 141)), (2, .ref (y.2.1 143)), (3, .int a3)] [] M (d_L_law_B862 xs sL kx1 kb a3 M) := by
  unfold d_L_law_B862
  refine G_iinc (pc := 862) (v := a3 + (5)) h.1 h.2.1 (fun v5 => [(3, .int v5), (0, .ref b), (1, .ref (y.2.1 141)), (2, .ref (y.2.1 143))]) dL_law_862 (by decide) 3 rfl rfl (fun _ => rfl) (fun v5 => ?_)
  refine G_goto (pc := 865) (tgt := 18) h.1 dL_law_865 (by decide) ?_
  exact G_sub [1, 2, 3, 0] rfl (hb v5 M)
set_option maxRecDepth 20000 in
theorem gd_L_law_L18_body {x : Cx} {y : Cy} (hy : Inj y) {b : Nat} (h : OkL x y b) {xs : Nat → Int32} {sL : Nat} (hX : va_X b sL xs x.1.2.2.2.2 x.1.2.2.2.2.heap) (hbl : b < x.1.2.2.2.2.heap.size) (kx1 : Mem → Ans) (hx1 : ∀ M0 : Mem, G x y 868 [] [] M0 (kx1 M0)) (kb : Int32 → Mem → Ans) (hb : ∀ (b3 : Int32), ∀ M0 : Mem, G x y 18 [(0, .ref b), (1, .ref (y.2.1 141)), (2, .ref (y.2.1 143)), (3, .int b3)] [] M0 (kb b3 M0)) (a3 : Int32) (M : Mem) : G x y 18 [(0, .ref b), (1, .ref (y.2.1 141)), (2, .ref (y.2.1 143)), (3, .int a3)] [] M (d_L_law_L18_body xs sL kx1 kb a3 M) := by
  unfold d_L_law_L18_body
  refine G_iload_n (pc := 18) h.1 dL_law_18 rfl 3 rfl ?_
  refine G_aload_n (pc := 19) h.1 dL_law_19 rfl 0 rfl ?_
  refine G_slen (pc := 20) h.1 hX hbl h.2.2.2.1 dL_law_20 ?_
  refine G_iconst (pc := 21) (v := (5)) h.1 dL_law_21 (by decide) ?_
  refine G_isub (pc := 22) h.1 dL_law_22 ?_
  refine G_icmp_gt (pc := 23) (tgt := 868) h.1 dL_law_23 (by decide) ?_ ?_
  · exact G_sub [] rfl (hx1 M)
  · refine G_aload_n (pc := 26) h.1 dL_law_26 rfl 0 rfl ?_
    refine G_iload_n (pc := 27) h.1 dL_law_27 rfl 3 rfl ?_
    refine G_sld (pc := 28) h.1 hX hbl h.2.2.2.1 dL_law_28 ?_
    refine G_bipush (pc := 29) (v := (31)) h.1 dL_law_29 (by decide) ?_
    refine G_iand (pc := 31) h.1 dL_law_31 ?_
    refine G_ite (fun c6 => ?_) (fun c6 => ?_)
    · refine G_tabIn (z := 0) (off := 120) (tgt := 152) h.1 dL_law_32 c6 (by decide) (by decide) (by decide) rfl (by decide) ?_
      refine G_aload_n (pc := 152) h.1 dL_law_152 rfl 1 rfl ?_
      refine G_aload_n (pc := 153) h.1 dL_law_153 rfl 0 rfl ?_
      refine G_iload_n (pc := 154) h.1 dL_law_154 rfl 3 rfl ?_
      refine G_iconst (pc := 155) (v := (1)) h.1 dL_law_155 (by decide) ?_
      refine G_iadd (pc := 156) h.1 dL_law_156 ?_
      refine G_sld (pc := 157) h.1 hX hbl h.2.2.2.1 dL_law_157 ?_
      refine G_aload_n (pc := 158) h.1 dL_law_158 rfl 0 rfl ?_
      refine G_iload_n (pc := 159) h.1 dL_law_159 rfl 3 rfl ?_
      refine G_iconst (pc := 160) (v := (2)) h.1 dL_law_160 (by decide) ?_
      refine G_iadd (pc := 161) h.1 dL_law_161 ?_
      refine G_sld (pc := 162) h.1 hX hbl h.2.2.2.1 dL_law_162 ?_
      refine G_aload_n (pc := 163) h.1 dL_law_163 rfl 0 rfl ?_
      refine G_iload_n (pc := 164) h.1 dL_law_164 rfl 3 rfl ?_
      refine G_iconst (pc := 165) (v := (3)) h.1 dL_law_165 (by decide) ?_
      refine G_iadd (pc := 166) h.1 dL_law_166 ?_
      refine G_sld (pc := 167) h.1 hX hbl h.2.2.2.1 dL_law_167 ?_
      refine G_aload_n (pc := 168) h.1 dL_law_168 rfl 0 rfl ?_
      refine G_iload_n (pc := 169) h.1 dL_law_169 rfl 3 rfl ?_
      refine G_iconst (pc := 170) (v := (4)) h.1 dL_law_170 (by decide) ?_
      refine G_iadd (pc := 171) h.1 dL_law_171 ?_
      refine G_sld (pc := 172) h.1 hX hbl h.2.2.2.1 dL_law_172 ?_
      refine G_callV (pc := 173) (As := [.int (xs ((a3 + (1 : Int32))).toNatClampNeg), .int (xs ((a3 + (2 : Int32))).toNatClampNeg), .int (xs ((a3 + (3 : Int32))).toNatClampNeg), .int (xs ((a3 + (4 : Int32))).toNatClampNeg)]) (rest := []) h.1 h.2.2.1 lk_L_13 lN141 (eM141 _) rfl rfl (c_X8_addRecipe x.1.2.1 y hy (xs ((a3 + (1 : Int32))).toNatClampNeg) (xs ((a3 + (2 : Int32))).toNatClampNeg) (xs ((a3 + (3 : Int32))).toNatClampNeg) (xs ((a3 + (4 : Int32))).toNatClampNeg) M) rfl rfl (Nat.le_of_ble_eq_true rfl) ⟨rfl, rfl, Nat.le_of_ble_eq_true rfl, Nat.le_of_ble_eq_true rfl⟩ dL_law_173 (fun r2 M1 => ?_)
      refine G_pop (pc := 176) h.1 dL_law_176 rfl ?_
      refine G_aload_n (pc := 177) h.1 dL_law_177 rfl 2 rfl ?_
      refine G_aload_n (pc := 178) h.1 dL_law_178 rfl 0 rfl ?_
      refine G_iload_n (pc := 179) h.1 dL_law_179 rfl 3 rfl ?_
      refine G_iconst (pc := 180) (v := (1)) h.1 dL_law_180 (by decide) ?_
      refine G_iadd (pc := 181) h.1 dL_law_181 ?_
      refine G_sld (pc := 182) h.1 hX hbl h.2.2.2.1 dL_law_182 ?_
      refine G_aload_n (pc := 183) h.1 dL_law_183 rfl 0 rfl ?_
      refine G_iload_n (pc := 184) h.1 dL_law_184 rfl 3 rfl ?_
      refine G_iconst (pc := 185) (v := (2)) h.1 dL_law_185 (by decide) ?_
      refine G_iadd (pc := 186) h.1 dL_law_186 ?_
      refine G_sld (pc := 187) h.1 hX hbl h.2.2.2.1 dL_law_187 ?_
      refine G_aload_n (pc := 188) h.1 dL_law_188 rfl 0 rfl ?_
      refine G_iload_n (pc := 189) h.1 dL_law_189 rfl 3 rfl ?_
      refine G_iconst (pc := 190) (v := (3)) h.1 dL_law_190 (by decide) ?_
      refine G_iadd (pc := 191) h.1 dL_law_191 ?_
      refine G_sld (pc := 192) h.1 hX hbl h.2.2.2.1 dL_law_192 ?_
      refine G_aload_n (pc := 193) h.1 dL_law_193 rfl 0 rfl ?_
      refine G_iload_n (pc := 194) h.1 dL_law_194 rfl 3 rfl ?_
      refine G_iconst (pc := 195) (v := (4)) h.1 dL_law_195 (by decide) ?_
      refine G_iadd (pc := 196) h.1 dL_law_196 ?_
      refine G_sld (pc := 197) h.1 hX hbl h.2.2.2.1 dL_law_197 ?_
      refine G_callV (pc := 198) (As := [.int (xs ((a3 + (1 : Int32))).toNatClampNeg), .int (xs ((a3 + (2 : Int32))).toNatClampNeg), .int (xs ((a3 + (3 : Int32))).toNatClampNeg), .int (xs ((a3 + (4 : Int32))).toNatClampNeg)]) (rest := []) h.1 h.2.2.1 lk_L_17 lN143 (eM143 _) rfl rfl (c_X9_addRecipe x.1.2.1 y hy (xs ((a3 + (1 : Int32))).toNatClampNeg) (xs ((a3 + (2 : Int32))).toNatClampNeg) (xs ((a3 + (3 : Int32))).toNatClampNeg) (xs ((a3 + (4 : Int32))).toNatClampNeg) M1) rfl rfl (Nat.le_of_ble_eq_true rfl) ⟨rfl, rfl, Nat.le_of_ble_eq_true rfl, Nat.le_of_ble_eq_true rfl⟩ dL_law_198 (fun r4 M3 => ?_)
      refine G_pop (pc := 201) h.1 dL_law_201 rfl ?_
      refine G_goto (pc := 202) (tgt := 862) h.1 dL_law_202 (by decide) ?_
      exact G_sub [0, 1, 2, 3] rfl (gd_L_law_B862 hy h hX hbl kx1 kb a3 hx1 hb M3)
    refine G_ite (fun c11 => ?_) (fun c11 => ?_)
    · refine G_tabIn (z := 1) (off := 173) (tgt := 205) h.1 dL_law_32 c11 (by decide) (by decide) (by decide) rfl (by decide) ?_
      refine G_aload_n (pc := 205) h.1 dL_law_205 rfl 1 rfl ?_
      refine G_aload_n (pc := 206) h.1 dL_law_206 rfl 0 rfl ?_
      refine G_iload_n (pc := 207) h.1 dL_law_207 rfl 3 rfl ?_
      refine G_iconst (pc := 208) (v := (1)) h.1 dL_law_208 (by decide) ?_
      refine G_iadd (pc := 209) h.1 dL_law_209 ?_
      refine G_sld (pc := 210) h.1 hX hbl h.2.2.2.1 dL_law_210 ?_
      refine G_callV (pc := 211) (As := [.int (xs ((a3 + (1 : Int32))).toNatClampNeg)]) (rest := []) h.1 h.2.2.1 lk_L_18 lN141 (eM141 _) rfl rfl (c_X8_setHeat x.1.2.1 y hy (xs ((a3 + (1 : Int32))).toNatClampNeg) M) rfl rfl (Nat.le_of_ble_eq_true rfl) ⟨rfl, rfl, Nat.le_of_ble_eq_true rfl, Nat.le_of_ble_eq_true rfl⟩ dL_law_211 (fun r8 M7 => ?_)
      refine G_pop (pc := 214) h.1 dL_law_214 rfl ?_
      refine G_aload_n (pc := 215) h.1 dL_law_215 rfl 2 rfl ?_
      refine G_aload_n (pc := 216) h.1 dL_law_216 rfl 0 rfl ?_
      refine G_iload_n (pc := 217) h.1 dL_law_217 rfl 3 rfl ?_
      refine G_iconst (pc := 218) (v := (1)) h.1 dL_law_218 (by decide) ?_
      refine G_iadd (pc := 219) h.1 dL_law_219 ?_
      refine G_sld (pc := 220) h.1 hX hbl h.2.2.2.1 dL_law_220 ?_
      refine G_callV (pc := 221) (As := [.int (xs ((a3 + (1 : Int32))).toNatClampNeg)]) (rest := []) h.1 h.2.2.1 lk_L_22 lN143 (eM143 _) rfl rfl (c_X9_setHeat x.1.2.1 y hy (xs ((a3 + (1 : Int32))).toNatClampNeg) M7) rfl rfl (Nat.le_of_ble_eq_true rfl) ⟨rfl, rfl, Nat.le_of_ble_eq_true rfl, Nat.le_of_ble_eq_true rfl⟩ dL_law_221 (fun r10 M9 => ?_)
      refine G_pop (pc := 224) h.1 dL_law_224 rfl ?_
      refine G_goto (pc := 225) (tgt := 862) h.1 dL_law_225 (by decide) ?_
      exact G_sub [0, 1, 2, 3] rfl (gd_L_law_B862 hy h hX hbl kx1 kb a3 hx1 hb M9)
    refine G_ite (fun c16 => ?_) (fun c16 => ?_)
    · refine G_tabIn (z := 2) (off := 196) (tgt := 228) h.1 dL_law_32 c16 (by decide) (by decide) (by decide) rfl (by decide) ?_
      refine G_aload_n (pc := 228) h.1 dL_law_228 rfl 1 rfl ?_
      refine G_aload_n (pc := 229) h.1 dL_law_229 rfl 0 rfl ?_
      refine G_iload_n (pc := 230) h.1 dL_law_230 rfl 3 rfl ?_
      refine G_iconst (pc := 231) (v := (1)) h.1 dL_law_231 (by decide) ?_
      refine G_iadd (pc := 232) h.1 dL_law_232 ?_
      refine G_sld (pc := 233) h.1 hX hbl h.2.2.2.1 dL_law_233 ?_
      refine G_callV (pc := 234) (As := [.int (xs ((a3 + (1 : Int32))).toNatClampNeg)]) (rest := []) h.1 h.2.2.1 lk_L_23 lN141 (eM141 _) rfl rfl (c_X8_setMost x.1.2.1 y hy (xs ((a3 + (1 : Int32))).toNatClampNeg) M) rfl rfl (Nat.le_of_ble_eq_true rfl) ⟨rfl, rfl, Nat.le_of_ble_eq_true rfl, Nat.le_of_ble_eq_true rfl⟩ dL_law_234 (fun r13 M12 => ?_)
      refine G_pop (pc := 237) h.1 dL_law_237 rfl ?_
      refine G_aload_n (pc := 238) h.1 dL_law_238 rfl 2 rfl ?_
      refine G_aload_n (pc := 239) h.1 dL_law_239 rfl 0 rfl ?_
      refine G_iload_n (pc := 240) h.1 dL_law_240 rfl 3 rfl ?_
      refine G_iconst (pc := 241) (v := (1)) h.1 dL_law_241 (by decide) ?_
      refine G_iadd (pc := 242) h.1 dL_law_242 ?_
      refine G_sld (pc := 243) h.1 hX hbl h.2.2.2.1 dL_law_243 ?_
      refine G_callV (pc := 244) (As := [.int (xs ((a3 + (1 : Int32))).toNatClampNeg)]) (rest := []) h.1 h.2.2.1 lk_L_26 lN143 (eM143 _) rfl rfl (c_X9_setMost x.1.2.1 y hy (xs ((a3 + (1 : Int32))).toNatClampNeg) M12) rfl rfl (Nat.le_of_ble_eq_true rfl) ⟨rfl, rfl, Nat.le_of_ble_eq_true rfl, Nat.le_of_ble_eq_true rfl⟩ dL_law_244 (fun r15 M14 => ?_)
      refine G_pop (pc := 247) h.1 dL_law_247 rfl ?_
      refine G_goto (pc := 248) (tgt := 862) h.1 dL_law_248 (by decide) ?_
      exact G_sub [0, 1, 2, 3] rfl (gd_L_law_B862 hy h hX hbl kx1 kb a3 hx1 hb M14)
    refine G_ite (fun c21 => ?_) (fun c21 => ?_)
    · refine G_tabIn (z := 3) (off := 219) (tgt := 251) h.1 dL_law_32 c21 (by decide) (by decide) (by decide) rfl (by decide) ?_
      refine G_aload_n (pc := 251) h.1 dL_law_251 rfl 1 rfl ?_
      refine G_aload_n (pc := 252) h.1 dL_law_252 rfl 0 rfl ?_
      refine G_iload_n (pc := 253) h.1 dL_law_253 rfl 3 rfl ?_
      refine G_iconst (pc := 254) (v := (1)) h.1 dL_law_254 (by decide) ?_
      refine G_iadd (pc := 255) h.1 dL_law_255 ?_
      refine G_sld (pc := 256) h.1 hX hbl h.2.2.2.1 dL_law_256 ?_
      refine G_callV (pc := 257) (As := [.int (xs ((a3 + (1 : Int32))).toNatClampNeg)]) (rest := []) h.1 h.2.2.1 lk_L_27 lN141 (eM141 _) rfl rfl (c_X8_fall x.1.2.1 y hy (xs ((a3 + (1 : Int32))).toNatClampNeg) M) rfl rfl (Nat.le_of_ble_eq_true rfl) ⟨rfl, rfl, Nat.le_of_ble_eq_true rfl, Nat.le_of_ble_eq_true rfl⟩ dL_law_257 (fun r18 M17 => ?_)
      refine G_pop (pc := 260) h.1 dL_law_260 rfl ?_
      refine G_aload_n (pc := 261) h.1 dL_law_261 rfl 2 rfl ?_
      refine G_aload_n (pc := 262) h.1 dL_law_262 rfl 0 rfl ?_
      refine G_iload_n (pc := 263) h.1 dL_law_263 rfl 3 rfl ?_
      refine G_iconst (pc := 264) (v := (1)) h.1 dL_law_264 (by decide) ?_
      refine G_iadd (pc := 265) h.1 dL_law_265 ?_
      refine G_sld (pc := 266) h.1 hX hbl h.2.2.2.1 dL_law_266 ?_
      refine G_callV (pc := 267) (As := [.int (xs ((a3 + (1 : Int32))).toNatClampNeg)]) (rest := []) h.1 h.2.2.1 lk_L_30 lN143 (eM143 _) rfl rfl (c_X9_fall x.1.2.1 y hy (xs ((a3 + (1 : Int32))).toNatClampNeg) M17) rfl rfl (Nat.le_of_ble_eq_true rfl) ⟨rfl, rfl, Nat.le_of_ble_eq_true rfl, Nat.le_of_ble_eq_true rfl⟩ dL_law_267 (fun r20 M19 => ?_)
      refine G_pop (pc := 270) h.1 dL_law_270 rfl ?_
      refine G_goto (pc := 271) (tgt := 862) h.1 dL_law_271 (by decide) ?_
      exact G_sub [0, 1, 2, 3] rfl (gd_L_law_B862 hy h hX hbl kx1 kb a3 hx1 hb M19)
    refine G_ite (fun c26 => ?_) (fun c26 => ?_)
    · refine G_tabIn (z := 4) (off := 242) (tgt := 274) h.1 dL_law_32 c26 (by decide) (by decide) (by decide) rfl (by decide) ?_
      refine G_aload_n (pc := 274) h.1 dL_law_274 rfl 1 rfl ?_
      refine G_aload_n (pc := 275) h.1 dL_law_275 rfl 0 rfl ?_
      refine G_iload_n (pc := 276) h.1 dL_law_276 rfl 3 rfl ?_
      refine G_iconst (pc := 277) (v := (1)) h.1 dL_law_277 (by decide) ?_
      refine G_iadd (pc := 278) h.1 dL_law_278 ?_
      refine G_sld (pc := 279) h.1 hX hbl h.2.2.2.1 dL_law_279 ?_
      refine G_aload_n (pc := 280) h.1 dL_law_280 rfl 0 rfl ?_
      refine G_iload_n (pc := 281) h.1 dL_law_281 rfl 3 rfl ?_
      refine G_iconst (pc := 282) (v := (2)) h.1 dL_law_282 (by decide) ?_
      refine G_iadd (pc := 283) h.1 dL_law_283 ?_
      refine G_sld (pc := 284) h.1 hX hbl h.2.2.2.1 dL_law_284 ?_
      refine G_aload_n (pc := 285) h.1 dL_law_285 rfl 0 rfl ?_
      refine G_iload_n (pc := 286) h.1 dL_law_286 rfl 3 rfl ?_
      refine G_iconst (pc := 287) (v := (3)) h.1 dL_law_287 (by decide) ?_
      refine G_iadd (pc := 288) h.1 dL_law_288 ?_
      refine G_sld (pc := 289) h.1 hX hbl h.2.2.2.1 dL_law_289 ?_
      refine G_callV (pc := 290) (As := [.int (xs ((a3 + (1 : Int32))).toNatClampNeg), .int (xs ((a3 + (2 : Int32))).toNatClampNeg), .int (xs ((a3 + (3 : Int32))).toNatClampNeg)]) (rest := []) h.1 h.2.2.1 lk_L_31 lN141 (eM141 _) rfl rfl (c_X8_book x.1.2.1 y hy (xs ((a3 + (1 : Int32))).toNatClampNeg) (xs ((a3 + (2 : Int32))).toNatClampNeg) (xs ((a3 + (3 : Int32))).toNatClampNeg) M) rfl rfl (Nat.le_of_ble_eq_true rfl) ⟨rfl, rfl, Nat.le_of_ble_eq_true rfl, Nat.le_of_ble_eq_true rfl⟩ dL_law_290 (fun r23 M22 => ?_)
      refine G_pop (pc := 293) h.1 dL_law_293 rfl ?_
      refine G_aload_n (pc := 294) h.1 dL_law_294 rfl 2 rfl ?_
      refine G_aload_n (pc := 295) h.1 dL_law_295 rfl 0 rfl ?_
      refine G_iload_n (pc := 296) h.1 dL_law_296 rfl 3 rfl ?_
      refine G_iconst (pc := 297) (v := (1)) h.1 dL_law_297 (by decide) ?_
      refine G_iadd (pc := 298) h.1 dL_law_298 ?_
      refine G_sld (pc := 299) h.1 hX hbl h.2.2.2.1 dL_law_299 ?_
      refine G_aload_n (pc := 300) h.1 dL_law_300 rfl 0 rfl ?_
      refine G_iload_n (pc := 301) h.1 dL_law_301 rfl 3 rfl ?_
      refine G_iconst (pc := 302) (v := (2)) h.1 dL_law_302 (by decide) ?_
      refine G_iadd (pc := 303) h.1 dL_law_303 ?_
      refine G_sld (pc := 304) h.1 hX hbl h.2.2.2.1 dL_law_304 ?_
      refine G_aload_n (pc := 305) h.1 dL_law_305 rfl 0 rfl ?_
      refine G_iload_n (pc := 306) h.1 dL_law_306 rfl 3 rfl ?_
      refine G_iconst (pc := 307) (v := (3)) h.1 dL_law_307 (by decide) ?_
      refine G_iadd (pc := 308) h.1 dL_law_308 ?_
      refine G_sld (pc := 309) h.1 hX hbl h.2.2.2.1 dL_law_309 ?_
      refine G_callV (pc := 310) (As := [.int (xs ((a3 + (1 : Int32))).toNatClampNeg), .int (xs ((a3 + (2 : Int32))).toNatClampNeg), .int (xs ((a3 + (3 : Int32))).toNatClampNeg)]) (rest := []) h.1 h.2.2.1 lk_L_35 lN143 (eM143 _) rfl rfl (c_X9_book x.1.2.1 y hy (xs ((a3 + (1 : Int32))).toNatClampNeg) (xs ((a3 + (2 : Int32))).toNatClampNeg) (xs ((a3 + (3 : Int32))).toNatClampNeg) M22) rfl rfl (Nat.le_of_ble_eq_true rfl) ⟨rfl, rfl, Nat.le_of_ble_eq_true rfl, Nat.le_of_ble_eq_true rfl⟩ dL_law_310 (fun r25 M24 => ?_)
      refine G_pop (pc := 313) h.1 dL_law_313 rfl ?_
      refine G_goto (pc := 314) (tgt := 862) h.1 dL_law_314 (by decide) ?_
      exact G_sub [0, 1, 2, 3] rfl (gd_L_law_B862 hy h hX hbl kx1 kb a3 hx1 hb M24)
    refine G_ite (fun c31 => ?_) (fun c31 => ?_)
    · refine G_tabIn (z := 5) (off := 285) (tgt := 317) h.1 dL_law_32 c31 (by decide) (by decide) (by decide) rfl (by decide) ?_
      refine G_aload_n (pc := 317) h.1 dL_law_317 rfl 1 rfl ?_
      refine G_aload_n (pc := 318) h.1 dL_law_318 rfl 0 rfl ?_
      refine G_iload_n (pc := 319) h.1 dL_law_319 rfl 3 rfl ?_
      refine G_iconst (pc := 320) (v := (1)) h.1 dL_law_320 (by decide) ?_
      refine G_iadd (pc := 321) h.1 dL_law_321 ?_
      refine G_sld (pc := 322) h.1 hX hbl h.2.2.2.1 dL_law_322 ?_
      refine G_callV (pc := 323) (As := [.int (xs ((a3 + (1 : Int32))).toNatClampNeg)]) (rest := []) h.1 h.2.2.1 lk_L_36 lN141 (eM141 _) rfl rfl (c_X8_cancel x.1.2.1 y hy (xs ((a3 + (1 : Int32))).toNatClampNeg) M) rfl rfl (Nat.le_of_ble_eq_true rfl) ⟨rfl, rfl, Nat.le_of_ble_eq_true rfl, Nat.le_of_ble_eq_true rfl⟩ dL_law_323 (fun r28 M27 => ?_)
      refine G_pop (pc := 326) h.1 dL_law_326 rfl ?_
      refine G_aload_n (pc := 327) h.1 dL_law_327 rfl 2 rfl ?_
      refine G_aload_n (pc := 328) h.1 dL_law_328 rfl 0 rfl ?_
      refine G_iload_n (pc := 329) h.1 dL_law_329 rfl 3 rfl ?_
      refine G_iconst (pc := 330) (v := (1)) h.1 dL_law_330 (by decide) ?_
      refine G_iadd (pc := 331) h.1 dL_law_331 ?_
      refine G_sld (pc := 332) h.1 hX hbl h.2.2.2.1 dL_law_332 ?_
      refine G_callV (pc := 333) (As := [.int (xs ((a3 + (1 : Int32))).toNatClampNeg)]) (rest := []) h.1 h.2.2.1 lk_L_39 lN143 (eM143 _) rfl rfl (c_X9_cancel x.1.2.1 y hy (xs ((a3 + (1 : Int32))).toNatClampNeg) M27) rfl rfl (Nat.le_of_ble_eq_true rfl) ⟨rfl, rfl, Nat.le_of_ble_eq_true rfl, Nat.le_of_ble_eq_true rfl⟩ dL_law_333 (fun r30 M29 => ?_)
      refine G_pop (pc := 336) h.1 dL_law_336 rfl ?_
      refine G_goto (pc := 337) (tgt := 862) h.1 dL_law_337 (by decide) ?_
      exact G_sub [0, 1, 2, 3] rfl (gd_L_law_B862 hy h hX hbl kx1 kb a3 hx1 hb M29)
    refine G_ite (fun c36 => ?_) (fun c36 => ?_)
    · refine G_tabIn (z := 6) (off := 308) (tgt := 340) h.1 dL_law_32 c36 (by decide) (by decide) (by decide) rfl (by decide) ?_
      refine G_aload_n (pc := 340) h.1 dL_law_340 rfl 1 rfl ?_
      refine G_aload_n (pc := 341) h.1 dL_law_341 rfl 0 rfl ?_
      refine G_iload_n (pc := 342) h.1 dL_law_342 rfl 3 rfl ?_
      refine G_iconst (pc := 343) (v := (1)) h.1 dL_law_343 (by decide) ?_
      refine G_iadd (pc := 344) h.1 dL_law_344 ?_
      refine G_sld (pc := 345) h.1 hX hbl h.2.2.2.1 dL_law_345 ?_
      refine G_aload_n (pc := 346) h.1 dL_law_346 rfl 0 rfl ?_
      refine G_iload_n (pc := 347) h.1 dL_law_347 rfl 3 rfl ?_
      refine G_iconst (pc := 348) (v := (2)) h.1 dL_law_348 (by decide) ?_
      refine G_iadd (pc := 349) h.1 dL_law_349 ?_
      refine G_sld (pc := 350) h.1 hX hbl h.2.2.2.1 dL_law_350 ?_
      refine G_callV (pc := 351) (As := [.int (xs ((a3 + (1 : Int32))).toNatClampNeg), .int (xs ((a3 + (2 : Int32))).toNatClampNeg)]) (rest := []) h.1 h.2.2.1 lk_L_40 lN141 (eM141 _) rfl rfl (c_X8_move x.1.2.1 y hy (xs ((a3 + (1 : Int32))).toNatClampNeg) (xs ((a3 + (2 : Int32))).toNatClampNeg) M) rfl rfl (Nat.le_of_ble_eq_true rfl) ⟨rfl, rfl, Nat.le_of_ble_eq_true rfl, Nat.le_of_ble_eq_true rfl⟩ dL_law_351 (fun r33 M32 => ?_)
      refine G_pop (pc := 354) h.1 dL_law_354 rfl ?_
      refine G_aload_n (pc := 355) h.1 dL_law_355 rfl 2 rfl ?_
      refine G_aload_n (pc := 356) h.1 dL_law_356 rfl 0 rfl ?_
      refine G_iload_n (pc := 357) h.1 dL_law_357 rfl 3 rfl ?_
      refine G_iconst (pc := 358) (v := (1)) h.1 dL_law_358 (by decide) ?_
      refine G_iadd (pc := 359) h.1 dL_law_359 ?_
      refine G_sld (pc := 360) h.1 hX hbl h.2.2.2.1 dL_law_360 ?_
      refine G_aload_n (pc := 361) h.1 dL_law_361 rfl 0 rfl ?_
      refine G_iload_n (pc := 362) h.1 dL_law_362 rfl 3 rfl ?_
      refine G_iconst (pc := 363) (v := (2)) h.1 dL_law_363 (by decide) ?_
      refine G_iadd (pc := 364) h.1 dL_law_364 ?_
      refine G_sld (pc := 365) h.1 hX hbl h.2.2.2.1 dL_law_365 ?_
      refine G_callV (pc := 366) (As := [.int (xs ((a3 + (1 : Int32))).toNatClampNeg), .int (xs ((a3 + (2 : Int32))).toNatClampNeg)]) (rest := []) h.1 h.2.2.1 lk_L_44 lN143 (eM143 _) rfl rfl (c_X9_move x.1.2.1 y hy (xs ((a3 + (1 : Int32))).toNatClampNeg) (xs ((a3 + (2 : Int32))).toNatClampNeg) M32) rfl rfl (Nat.le_of_ble_eq_true rfl) ⟨rfl, rfl, Nat.le_of_ble_eq_true rfl, Nat.le_of_ble_eq_true rfl⟩ dL_law_366 (fun r35 M34 => ?_)
      refine G_pop (pc := 369) h.1 dL_law_369 rfl ?_
      refine G_goto (pc := 370) (tgt := 862) h.1 dL_law_370 (by decide) ?_
      exact G_sub [0, 1, 2, 3] rfl (gd_L_law_B862 hy h hX hbl kx1 kb a3 hx1 hb M34)
    refine G_ite (fun c41 => ?_) (fun c41 => ?_)
    · refine G_tabIn (z := 7) (off := 341) (tgt := 373) h.1 dL_law_32 c41 (by decide) (by decide) (by decide) rfl (by decide) ?_
      refine G_aload_n (pc := 373) h.1 dL_law_373 rfl 1 rfl ?_
      refine G_callV (pc := 374) (As := []) (rest := []) h.1 h.2.2.1 lk_L_45 lN141 (eM141 _) rfl rfl (c_X8_repair x.1.2.1 y hy M) rfl rfl (Nat.le_of_ble_eq_true rfl) ⟨rfl, rfl, Nat.le_of_ble_eq_true rfl, Nat.le_of_ble_eq_true rfl⟩ dL_law_374 (fun r38 M37 => ?_)
      refine G_pop (pc := 377) h.1 dL_law_377 rfl ?_
      refine G_aload_n (pc := 378) h.1 dL_law_378 rfl 2 rfl ?_
      refine G_callV (pc := 379) (As := []) (rest := []) h.1 h.2.2.1 lk_L_49 lN143 (eM143 _) rfl rfl (c_X9_repair x.1.2.1 y hy M37) rfl rfl (Nat.le_of_ble_eq_true rfl) ⟨rfl, rfl, Nat.le_of_ble_eq_true rfl, Nat.le_of_ble_eq_true rfl⟩ dL_law_379 (fun r40 M39 => ?_)
      refine G_pop (pc := 382) h.1 dL_law_382 rfl ?_
      refine G_goto (pc := 383) (tgt := 862) h.1 dL_law_383 (by decide) ?_
      exact G_sub [0, 1, 2, 3] rfl (gd_L_law_B862 hy h hX hbl kx1 kb a3 hx1 hb M39)
    refine G_ite (fun c46 => ?_) (fun c46 => ?_)
    · refine G_tabIn (z := 8) (off := 354) (tgt := 386) h.1 dL_law_32 c46 (by decide) (by decide) (by decide) rfl (by decide) ?_
      refine G_aload_n (pc := 386) h.1 dL_law_386 rfl 1 rfl ?_
      refine G_aload_n (pc := 387) h.1 dL_law_387 rfl 0 rfl ?_
      refine G_iload_n (pc := 388) h.1 dL_law_388 rfl 3 rfl ?_
      refine G_iconst (pc := 389) (v := (1)) h.1 dL_law_389 (by decide) ?_
      refine G_iadd (pc := 390) h.1 dL_law_390 ?_
      refine G_sld (pc := 391) h.1 hX hbl h.2.2.2.1 dL_law_391 ?_
      refine G_aload_n (pc := 392) h.1 dL_law_392 rfl 0 rfl ?_
      refine G_iload_n (pc := 393) h.1 dL_law_393 rfl 3 rfl ?_
      refine G_iconst (pc := 394) (v := (2)) h.1 dL_law_394 (by decide) ?_
      refine G_iadd (pc := 395) h.1 dL_law_395 ?_
      refine G_sld (pc := 396) h.1 hX hbl h.2.2.2.1 dL_law_396 ?_
      refine G_aload_n (pc := 397) h.1 dL_law_397 rfl 0 rfl ?_
      refine G_iload_n (pc := 398) h.1 dL_law_398 rfl 3 rfl ?_
      refine G_iconst (pc := 399) (v := (3)) h.1 dL_law_399 (by decide) ?_
      refine G_iadd (pc := 400) h.1 dL_law_400 ?_
      refine G_sld (pc := 401) h.1 hX hbl h.2.2.2.1 dL_law_401 ?_
      refine G_callV (pc := 402) (As := [.int (xs ((a3 + (1 : Int32))).toNatClampNeg), .int (xs ((a3 + (2 : Int32))).toNatClampNeg), .int (xs ((a3 + (3 : Int32))).toNatClampNeg)]) (rest := []) h.1 h.2.2.1 lk_L_50 lN141 (eM141 _) rfl rfl (c_X8_wish x.1.2.1 y hy (xs ((a3 + (1 : Int32))).toNatClampNeg) (xs ((a3 + (2 : Int32))).toNatClampNeg) (xs ((a3 + (3 : Int32))).toNatClampNeg) M) rfl rfl (Nat.le_of_ble_eq_true rfl) ⟨rfl, rfl, Nat.le_of_ble_eq_true rfl, Nat.le_of_ble_eq_true rfl⟩ dL_law_402 (fun r43 M42 => ?_)
      refine G_pop (pc := 405) h.1 dL_law_405 rfl ?_
      refine G_aload_n (pc := 406) h.1 dL_law_406 rfl 2 rfl ?_
      refine G_aload_n (pc := 407) h.1 dL_law_407 rfl 0 rfl ?_
      refine G_iload_n (pc := 408) h.1 dL_law_408 rfl 3 rfl ?_
      refine G_iconst (pc := 409) (v := (1)) h.1 dL_law_409 (by decide) ?_
      refine G_iadd (pc := 410) h.1 dL_law_410 ?_
      refine G_sld (pc := 411) h.1 hX hbl h.2.2.2.1 dL_law_411 ?_
      refine G_aload_n (pc := 412) h.1 dL_law_412 rfl 0 rfl ?_
      refine G_iload_n (pc := 413) h.1 dL_law_413 rfl 3 rfl ?_
      refine G_iconst (pc := 414) (v := (2)) h.1 dL_law_414 (by decide) ?_
      refine G_iadd (pc := 415) h.1 dL_law_415 ?_
      refine G_sld (pc := 416) h.1 hX hbl h.2.2.2.1 dL_law_416 ?_
      refine G_aload_n (pc := 417) h.1 dL_law_417 rfl 0 rfl ?_
      refine G_iload_n (pc := 418) h.1 dL_law_418 rfl 3 rfl ?_
      refine G_iconst (pc := 419) (v := (3)) h.1 dL_law_419 (by decide) ?_
      refine G_iadd (pc := 420) h.1 dL_law_420 ?_
      refine G_sld (pc := 421) h.1 hX hbl h.2.2.2.1 dL_law_421 ?_
      refine G_callV (pc := 422) (As := [.int (xs ((a3 + (1 : Int32))).toNatClampNeg), .int (xs ((a3 + (2 : Int32))).toNatClampNeg), .int (xs ((a3 + (3 : Int32))).toNatClampNeg)]) (rest := []) h.1 h.2.2.1 lk_L_53 lN143 (eM143 _) rfl rfl (c_X9_wish x.1.2.1 y hy (xs ((a3 + (1 : Int32))).toNatClampNeg) (xs ((a3 + (2 : Int32))).toNatClampNeg) (xs ((a3 + (3 : Int32))).toNatClampNeg) M42) rfl rfl (Nat.le_of_ble_eq_true rfl) ⟨rfl, rfl, Nat.le_of_ble_eq_true rfl, Nat.le_of_ble_eq_true rfl⟩ dL_law_422 (fun r45 M44 => ?_)
      refine G_pop (pc := 425) h.1 dL_law_425 rfl ?_
      refine G_goto (pc := 426) (tgt := 862) h.1 dL_law_426 (by decide) ?_
      exact G_sub [0, 1, 2, 3] rfl (gd_L_law_B862 hy h hX hbl kx1 kb a3 hx1 hb M44)
    refine G_ite (fun c51 => ?_) (fun c51 => ?_)
    · refine G_tabIn (z := 9) (off := 397) (tgt := 429) h.1 dL_law_32 c51 (by decide) (by decide) (by decide) rfl (by decide) ?_
      refine G_aload_n (pc := 429) h.1 dL_law_429 rfl 1 rfl ?_
      refine G_aload_n (pc := 430) h.1 dL_law_430 rfl 0 rfl ?_
      refine G_iload_n (pc := 431) h.1 dL_law_431 rfl 3 rfl ?_
      refine G_iconst (pc := 432) (v := (1)) h.1 dL_law_432 (by decide) ?_
      refine G_iadd (pc := 433) h.1 dL_law_433 ?_
      refine G_sld (pc := 434) h.1 hX hbl h.2.2.2.1 dL_law_434 ?_
      refine G_callV (pc := 435) (As := [.int (xs ((a3 + (1 : Int32))).toNatClampNeg)]) (rest := []) h.1 h.2.2.1 lk_L_54 lN141 (eM141 _) rfl rfl (c_X8_unwish x.1.2.1 y hy (xs ((a3 + (1 : Int32))).toNatClampNeg) M) rfl rfl (Nat.le_of_ble_eq_true rfl) ⟨rfl, rfl, Nat.le_of_ble_eq_true rfl, Nat.le_of_ble_eq_true rfl⟩ dL_law_435 (fun r48 M47 => ?_)
      refine G_pop (pc := 438) h.1 dL_law_438 rfl ?_
      refine G_aload_n (pc := 439) h.1 dL_law_439 rfl 2 rfl ?_
      refine G_aload_n (pc := 440) h.1 dL_law_440 rfl 0 rfl ?_
      refine G_iload_n (pc := 441) h.1 dL_law_441 rfl 3 rfl ?_
      refine G_iconst (pc := 442) (v := (1)) h.1 dL_law_442 (by decide) ?_
      refine G_iadd (pc := 443) h.1 dL_law_443 ?_
      refine G_sld (pc := 444) h.1 hX hbl h.2.2.2.1 dL_law_444 ?_
      refine G_callV (pc := 445) (As := [.int (xs ((a3 + (1 : Int32))).toNatClampNeg)]) (rest := []) h.1 h.2.2.1 lk_L_57 lN143 (eM143 _) rfl rfl (c_X9_unwish x.1.2.1 y hy (xs ((a3 + (1 : Int32))).toNatClampNeg) M47) rfl rfl (Nat.le_of_ble_eq_true rfl) ⟨rfl, rfl, Nat.le_of_ble_eq_true rfl, Nat.le_of_ble_eq_true rfl⟩ dL_law_445 (fun r50 M49 => ?_)
      refine G_pop (pc := 448) h.1 dL_law_448 rfl ?_
      refine G_goto (pc := 449) (tgt := 862) h.1 dL_law_449 (by decide) ?_
      exact G_sub [0, 1, 2, 3] rfl (gd_L_law_B862 hy h hX hbl kx1 kb a3 hx1 hb M49)
    refine G_ite (fun c56 => ?_) (fun c56 => ?_)
    · refine G_tabIn (z := 10) (off := 420) (tgt := 452) h.1 dL_law_32 c56 (by decide) (by decide) (by decide) rfl (by decide) ?_
      refine G_aload_n (pc := 452) h.1 dL_law_452 rfl 1 rfl ?_
      refine G_aload_n (pc := 453) h.1 dL_law_453 rfl 0 rfl ?_
      refine G_iload_n (pc := 454) h.1 dL_law_454 rfl 3 rfl ?_
      refine G_iconst (pc := 455) (v := (1)) h.1 dL_law_455 (by decide) ?_
      refine G_iadd (pc := 456) h.1 dL_law_456 ?_
      refine G_sld (pc := 457) h.1 hX hbl h.2.2.2.1 dL_law_457 ?_
      refine G_callV (pc := 458) (As := [.int (xs ((a3 + (1 : Int32))).toNatClampNeg)]) (rest := []) h.1 h.2.2.1 lk_L_58 lN141 (eM141 _) rfl rfl (c_X8_pass x.1.2.1 y hy (xs ((a3 + (1 : Int32))).toNatClampNeg) M) rfl rfl (Nat.le_of_ble_eq_true rfl) ⟨rfl, rfl, Nat.le_of_ble_eq_true rfl, Nat.le_of_ble_eq_true rfl⟩ dL_law_458 (fun r53 M52 => ?_)
      refine G_pop (pc := 461) h.1 dL_law_461 rfl ?_
      refine G_aload_n (pc := 462) h.1 dL_law_462 rfl 2 rfl ?_
      refine G_aload_n (pc := 463) h.1 dL_law_463 rfl 0 rfl ?_
      refine G_iload_n (pc := 464) h.1 dL_law_464 rfl 3 rfl ?_
      refine G_iconst (pc := 465) (v := (1)) h.1 dL_law_465 (by decide) ?_
      refine G_iadd (pc := 466) h.1 dL_law_466 ?_
      refine G_sld (pc := 467) h.1 hX hbl h.2.2.2.1 dL_law_467 ?_
      refine G_callV (pc := 468) (As := [.int (xs ((a3 + (1 : Int32))).toNatClampNeg)]) (rest := []) h.1 h.2.2.1 lk_L_61 lN143 (eM143 _) rfl rfl (c_X9_pass x.1.2.1 y hy (xs ((a3 + (1 : Int32))).toNatClampNeg) M52) rfl rfl (Nat.le_of_ble_eq_true rfl) ⟨rfl, rfl, Nat.le_of_ble_eq_true rfl, Nat.le_of_ble_eq_true rfl⟩ dL_law_468 (fun r55 M54 => ?_)
      refine G_pop (pc := 471) h.1 dL_law_471 rfl ?_
      refine G_goto (pc := 472) (tgt := 862) h.1 dL_law_472 (by decide) ?_
      exact G_sub [0, 1, 2, 3] rfl (gd_L_law_B862 hy h hX hbl kx1 kb a3 hx1 hb M54)
    refine G_ite (fun c61 => ?_) (fun c61 => ?_)
    · refine G_tabIn (z := 11) (off := 443) (tgt := 475) h.1 dL_law_32 c61 (by decide) (by decide) (by decide) rfl (by decide) ?_
      refine G_aload_n (pc := 475) h.1 dL_law_475 rfl 1 rfl ?_
      refine G_aload_n (pc := 476) h.1 dL_law_476 rfl 0 rfl ?_
      refine G_iload_n (pc := 477) h.1 dL_law_477 rfl 3 rfl ?_
      refine G_iconst (pc := 478) (v := (1)) h.1 dL_law_478 (by decide) ?_
      refine G_iadd (pc := 479) h.1 dL_law_479 ?_
      refine G_sld (pc := 480) h.1 hX hbl h.2.2.2.1 dL_law_480 ?_
      refine G_i2c (pc := 481) h.1 dL_law_481 ?_
      refine G_callV (pc := 482) (As := [.int ((((xs ((a3 + (1 : Int32))).toNatClampNeg)).toUInt32 % 65536).toInt32)]) (rest := []) h.1 h.2.2.1 lk_L_62 lN141 (eM141 _) rfl rfl (c_X8_type x.1.2.1 y hy ((((xs ((a3 + (1 : Int32))).toNatClampNeg)).toUInt32 % 65536).toInt32) M) rfl rfl (Nat.le_of_ble_eq_true rfl) ⟨rfl, rfl, Nat.le_of_ble_eq_true rfl, Nat.le_of_ble_eq_true rfl⟩ dL_law_482 (fun r58 M57 => ?_)
      refine G_pop (pc := 485) h.1 dL_law_485 rfl ?_
      refine G_aload_n (pc := 486) h.1 dL_law_486 rfl 2 rfl ?_
      refine G_aload_n (pc := 487) h.1 dL_law_487 rfl 0 rfl ?_
      refine G_iload_n (pc := 488) h.1 dL_law_488 rfl 3 rfl ?_
      refine G_iconst (pc := 489) (v := (1)) h.1 dL_law_489 (by decide) ?_
      refine G_iadd (pc := 490) h.1 dL_law_490 ?_
      refine G_sld (pc := 491) h.1 hX hbl h.2.2.2.1 dL_law_491 ?_
      refine G_i2c (pc := 492) h.1 dL_law_492 ?_
      refine G_callV (pc := 493) (As := [.int ((((xs ((a3 + (1 : Int32))).toNatClampNeg)).toUInt32 % 65536).toInt32)]) (rest := []) h.1 h.2.2.1 lk_L_66 lN143 (eM143 _) rfl rfl (c_X9_type x.1.2.1 y hy ((((xs ((a3 + (1 : Int32))).toNatClampNeg)).toUInt32 % 65536).toInt32) M57) rfl rfl (Nat.le_of_ble_eq_true rfl) ⟨rfl, rfl, Nat.le_of_ble_eq_true rfl, Nat.le_of_ble_eq_true rfl⟩ dL_law_493 (fun r60 M59 => ?_)
      refine G_pop (pc := 496) h.1 dL_law_496 rfl ?_
      refine G_goto (pc := 497) (tgt := 862) h.1 dL_law_497 (by decide) ?_
      exact G_sub [0, 1, 2, 3] rfl (gd_L_law_B862 hy h hX hbl kx1 kb a3 hx1 hb M59)
    refine G_ite (fun c66 => ?_) (fun c66 => ?_)
    · refine G_tabIn (z := 12) (off := 468) (tgt := 500) h.1 dL_law_32 c66 (by decide) (by decide) (by decide) rfl (by decide) ?_
      refine G_aload_n (pc := 500) h.1 dL_law_500 rfl 1 rfl ?_
      refine G_callV (pc := 501) (As := []) (rest := []) h.1 h.2.2.1 lk_L_67 lN141 (eM141 _) rfl rfl (c_X8_clearText x.1.2.1 y hy M) rfl rfl (Nat.le_of_ble_eq_true rfl) ⟨rfl, rfl, Nat.le_of_ble_eq_true rfl, Nat.le_of_ble_eq_true rfl⟩ dL_law_501 (fun r63 M62 => ?_)
      refine G_pop (pc := 504) h.1 dL_law_504 rfl ?_
      refine G_aload_n (pc := 505) h.1 dL_law_505 rfl 2 rfl ?_
      refine G_callV (pc := 506) (As := []) (rest := []) h.1 h.2.2.1 lk_L_70 lN143 (eM143 _) rfl rfl (c_X9_clearText x.1.2.1 y hy M62) rfl rfl (Nat.le_of_ble_eq_true rfl) ⟨rfl, rfl, Nat.le_of_ble_eq_true rfl, Nat.le_of_ble_eq_true rfl⟩ dL_law_506 (fun r65 M64 => ?_)
      refine G_pop (pc := 509) h.1 dL_law_509 rfl ?_
      refine G_goto (pc := 510) (tgt := 862) h.1 dL_law_510 (by decide) ?_
      exact G_sub [0, 1, 2, 3] rfl (gd_L_law_B862 hy h hX hbl kx1 kb a3 hx1 hb M64)
    refine G_ite (fun c71 => ?_) (fun c71 => ?_)
    · refine G_tabIn (z := 13) (off := 481) (tgt := 513) h.1 dL_law_32 c71 (by decide) (by decide) (by decide) rfl (by decide) ?_
      refine G_aload_n (pc := 513) h.1 dL_law_513 rfl 1 rfl ?_
      refine G_callV (pc := 514) (As := []) (rest := []) h.1 h.2.2.1 lk_L_71 lN141 (eM141 _) rfl rfl (c_X8_bookAll x.1.2.1 y hy M) rfl rfl (Nat.le_of_ble_eq_true rfl) ⟨rfl, rfl, Nat.le_of_ble_eq_true rfl, Nat.le_of_ble_eq_true rfl⟩ dL_law_514 (fun r68 M67 => ?_)
      refine G_pop (pc := 517) h.1 dL_law_517 rfl ?_
      refine G_aload_n (pc := 518) h.1 dL_law_518 rfl 2 rfl ?_
      refine G_callV (pc := 519) (As := []) (rest := []) h.1 h.2.2.1 lk_L_74 lN143 (eM143 _) rfl rfl (c_X9_bookAll x.1.2.1 y hy M67) rfl rfl (Nat.le_of_ble_eq_true rfl) ⟨rfl, rfl, Nat.le_of_ble_eq_true rfl, Nat.le_of_ble_eq_true rfl⟩ dL_law_519 (fun r70 M69 => ?_)
      refine G_pop (pc := 522) h.1 dL_law_522 rfl ?_
      refine G_goto (pc := 523) (tgt := 862) h.1 dL_law_523 (by decide) ?_
      exact G_sub [0, 1, 2, 3] rfl (gd_L_law_B862 hy h hX hbl kx1 kb a3 hx1 hb M69)
    refine G_ite (fun c76 => ?_) (fun c76 => ?_)
    · refine G_tabIn (z := 14) (off := 494) (tgt := 526) h.1 dL_law_32 c76 (by decide) (by decide) (by decide) rfl (by decide) ?_
      refine G_aload_n (pc := 526) h.1 dL_law_526 rfl 1 rfl ?_
      refine G_callV (pc := 527) (As := []) (rest := []) h.1 h.2.2.1 lk_L_75 lN141 (eM141 _) rfl rfl (c_X8_undo x.1.2.1 y hy M) rfl rfl (Nat.le_of_ble_eq_true rfl) ⟨rfl, rfl, Nat.le_of_ble_eq_true rfl, Nat.le_of_ble_eq_true rfl⟩ dL_law_527 (fun r73 M72 => ?_)
      refine G_pop (pc := 530) h.1 dL_law_530 rfl ?_
      refine G_aload_n (pc := 531) h.1 dL_law_531 rfl 2 rfl ?_
      refine G_callV (pc := 532) (As := []) (rest := []) h.1 h.2.2.1 lk_L_78 lN143 (eM143 _) rfl rfl (c_X9_undo x.1.2.1 y hy M72) rfl rfl (Nat.le_of_ble_eq_true rfl) ⟨rfl, rfl, Nat.le_of_ble_eq_true rfl, Nat.le_of_ble_eq_true rfl⟩ dL_law_532 (fun r75 M74 => ?_)
      refine G_pop (pc := 535) h.1 dL_law_535 rfl ?_
      refine G_goto (pc := 536) (tgt := 862) h.1 dL_law_536 (by decide) ?_
      exact G_sub [0, 1, 2, 3] rfl (gd_L_law_B862 hy h hX hbl kx1 kb a3 hx1 hb M74)
    refine G_ite (fun c81 => ?_) (fun c81 => ?_)
    · refine G_tabIn (z := 15) (off := 507) (tgt := 539) h.1 dL_law_32 c81 (by decide) (by decide) (by decide) rfl (by decide) ?_
      refine G_aload_n (pc := 539) h.1 dL_law_539 rfl 1 rfl ?_
      refine G_callV (pc := 540) (As := []) (rest := []) h.1 h.2.2.1 lk_L_79 lN141 (eM141 _) rfl rfl (c_X8_keep x.1.2.1 y hy M) rfl rfl (Nat.le_of_ble_eq_true rfl) ⟨rfl, rfl, Nat.le_of_ble_eq_true rfl, Nat.le_of_ble_eq_true rfl⟩ dL_law_540 (fun r78 M77 => ?_)
      refine G_pop (pc := 543) h.1 dL_law_543 rfl ?_
      refine G_aload_n (pc := 544) h.1 dL_law_544 rfl 2 rfl ?_
      refine G_callV (pc := 545) (As := []) (rest := []) h.1 h.2.2.1 lk_L_82 lN143 (eM143 _) rfl rfl (c_X9_keep x.1.2.1 y hy M77) rfl rfl (Nat.le_of_ble_eq_true rfl) ⟨rfl, rfl, Nat.le_of_ble_eq_true rfl, Nat.le_of_ble_eq_true rfl⟩ dL_law_545 (fun r80 M79 => ?_)
      refine G_pop (pc := 548) h.1 dL_law_548 rfl ?_
      refine G_goto (pc := 549) (tgt := 862) h.1 dL_law_549 (by decide) ?_
      exact G_sub [0, 1, 2, 3] rfl (gd_L_law_B862 hy h hX hbl kx1 kb a3 hx1 hb M79)
    refine G_ite (fun c86 => ?_) (fun c86 => ?_)
    · refine G_tabIn (z := 16) (off := 520) (tgt := 552) h.1 dL_law_32 c86 (by decide) (by decide) (by decide) rfl (by decide) ?_
      refine G_aload_n (pc := 552) h.1 dL_law_552 rfl 1 rfl ?_
      refine G_callV (pc := 553) (As := []) (rest := []) h.1 h.2.2.1 lk_L_83 lN141 (eM141 _) rfl rfl (c_X8_restore x.1.2.1 y hy M) rfl rfl (Nat.le_of_ble_eq_true rfl) ⟨rfl, rfl, Nat.le_of_ble_eq_true rfl, Nat.le_of_ble_eq_true rfl⟩ dL_law_553 (fun r83 M82 => ?_)
      refine G_pop (pc := 556) h.1 dL_law_556 rfl ?_
      refine G_aload_n (pc := 557) h.1 dL_law_557 rfl 2 rfl ?_
      refine G_callV (pc := 558) (As := []) (rest := []) h.1 h.2.2.1 lk_L_86 lN143 (eM143 _) rfl rfl (c_X9_restore x.1.2.1 y hy M82) rfl rfl (Nat.le_of_ble_eq_true rfl) ⟨rfl, rfl, Nat.le_of_ble_eq_true rfl, Nat.le_of_ble_eq_true rfl⟩ dL_law_558 (fun r85 M84 => ?_)
      refine G_pop (pc := 561) h.1 dL_law_561 rfl ?_
      refine G_goto (pc := 562) (tgt := 862) h.1 dL_law_562 (by decide) ?_
      exact G_sub [0, 1, 2, 3] rfl (gd_L_law_B862 hy h hX hbl kx1 kb a3 hx1 hb M84)
    refine G_ite (fun c91 => ?_) (fun c91 => ?_)
    · refine G_tabIn (z := 17) (off := 533) (tgt := 565) h.1 dL_law_32 c91 (by decide) (by decide) (by decide) rfl (by decide) ?_
      refine G_aload_n (pc := 565) h.1 dL_law_565 rfl 1 rfl ?_
      refine G_aload_n (pc := 566) h.1 dL_law_566 rfl 0 rfl ?_
      refine G_iload_n (pc := 567) h.1 dL_law_567 rfl 3 rfl ?_
      refine G_iconst (pc := 568) (v := (1)) h.1 dL_law_568 (by decide) ?_
      refine G_iadd (pc := 569) h.1 dL_law_569 ?_
      refine G_sld (pc := 570) h.1 hX hbl h.2.2.2.1 dL_law_570 ?_
      refine G_aload_n (pc := 571) h.1 dL_law_571 rfl 0 rfl ?_
      refine G_iload_n (pc := 572) h.1 dL_law_572 rfl 3 rfl ?_
      refine G_iconst (pc := 573) (v := (2)) h.1 dL_law_573 (by decide) ?_
      refine G_iadd (pc := 574) h.1 dL_law_574 ?_
      refine G_sld (pc := 575) h.1 hX hbl h.2.2.2.1 dL_law_575 ?_
      refine G_callV (pc := 576) (As := [.int (xs ((a3 + (1 : Int32))).toNatClampNeg), .int (xs ((a3 + (2 : Int32))).toNatClampNeg)]) (rest := []) h.1 h.2.2.1 lk_L_87 lN141 (eM141 _) rfl rfl (c_X8_recipe x.1.2.1 y hy (xs ((a3 + (1 : Int32))).toNatClampNeg) (xs ((a3 + (2 : Int32))).toNatClampNeg) M) rfl rfl (Nat.le_of_ble_eq_true rfl) ⟨rfl, rfl, Nat.le_of_ble_eq_true rfl, Nat.le_of_ble_eq_true rfl⟩ dL_law_576 (fun r88 M87 => ?_)
      refine G_pop (pc := 579) h.1 dL_law_579 rfl ?_
      refine G_aload_n (pc := 580) h.1 dL_law_580 rfl 2 rfl ?_
      refine G_aload_n (pc := 581) h.1 dL_law_581 rfl 0 rfl ?_
      refine G_iload_n (pc := 582) h.1 dL_law_582 rfl 3 rfl ?_
      refine G_iconst (pc := 583) (v := (1)) h.1 dL_law_583 (by decide) ?_
      refine G_iadd (pc := 584) h.1 dL_law_584 ?_
      refine G_sld (pc := 585) h.1 hX hbl h.2.2.2.1 dL_law_585 ?_
      refine G_aload_n (pc := 586) h.1 dL_law_586 rfl 0 rfl ?_
      refine G_iload_n (pc := 587) h.1 dL_law_587 rfl 3 rfl ?_
      refine G_iconst (pc := 588) (v := (2)) h.1 dL_law_588 (by decide) ?_
      refine G_iadd (pc := 589) h.1 dL_law_589 ?_
      refine G_sld (pc := 590) h.1 hX hbl h.2.2.2.1 dL_law_590 ?_
      refine G_callV (pc := 591) (As := [.int (xs ((a3 + (1 : Int32))).toNatClampNeg), .int (xs ((a3 + (2 : Int32))).toNatClampNeg)]) (rest := []) h.1 h.2.2.1 lk_L_90 lN143 (eM143 _) rfl rfl (c_X9_recipe x.1.2.1 y hy (xs ((a3 + (1 : Int32))).toNatClampNeg) (xs ((a3 + (2 : Int32))).toNatClampNeg) M87) rfl rfl (Nat.le_of_ble_eq_true rfl) ⟨rfl, rfl, Nat.le_of_ble_eq_true rfl, Nat.le_of_ble_eq_true rfl⟩ dL_law_591 (fun r90 M89 => ?_)
      refine G_pop (pc := 594) h.1 dL_law_594 rfl ?_
      refine G_goto (pc := 595) (tgt := 862) h.1 dL_law_595 (by decide) ?_
      exact G_sub [0, 1, 2, 3] rfl (gd_L_law_B862 hy h hX hbl kx1 kb a3 hx1 hb M89)
    refine G_ite (fun c96 => ?_) (fun c96 => ?_)
    · refine G_tabIn (z := 18) (off := 566) (tgt := 598) h.1 dL_law_32 c96 (by decide) (by decide) (by decide) rfl (by decide) ?_
      refine G_aload_n (pc := 598) h.1 dL_law_598 rfl 1 rfl ?_
      refine G_aload_n (pc := 599) h.1 dL_law_599 rfl 0 rfl ?_
      refine G_iload_n (pc := 600) h.1 dL_law_600 rfl 3 rfl ?_
      refine G_iconst (pc := 601) (v := (1)) h.1 dL_law_601 (by decide) ?_
      refine G_iadd (pc := 602) h.1 dL_law_602 ?_
      refine G_sld (pc := 603) h.1 hX hbl h.2.2.2.1 dL_law_603 ?_
      refine G_aload_n (pc := 604) h.1 dL_law_604 rfl 0 rfl ?_
      refine G_iload_n (pc := 605) h.1 dL_law_605 rfl 3 rfl ?_
      refine G_iconst (pc := 606) (v := (2)) h.1 dL_law_606 (by decide) ?_
      refine G_iadd (pc := 607) h.1 dL_law_607 ?_
      refine G_sld (pc := 608) h.1 hX hbl h.2.2.2.1 dL_law_608 ?_
      refine G_callV (pc := 609) (As := [.int (xs ((a3 + (1 : Int32))).toNatClampNeg), .int (xs ((a3 + (2 : Int32))).toNatClampNeg)]) (rest := []) h.1 h.2.2.1 lk_L_91 lN141 (eM141 _) rfl rfl (c_X8_robot x.1.2.1 y hy (xs ((a3 + (1 : Int32))).toNatClampNeg) (xs ((a3 + (2 : Int32))).toNatClampNeg) M) rfl rfl (Nat.le_of_ble_eq_true rfl) ⟨rfl, rfl, Nat.le_of_ble_eq_true rfl, Nat.le_of_ble_eq_true rfl⟩ dL_law_609 (fun r93 M92 => ?_)
      refine G_pop (pc := 612) h.1 dL_law_612 rfl ?_
      refine G_aload_n (pc := 613) h.1 dL_law_613 rfl 2 rfl ?_
      refine G_aload_n (pc := 614) h.1 dL_law_614 rfl 0 rfl ?_
      refine G_iload_n (pc := 615) h.1 dL_law_615 rfl 3 rfl ?_
      refine G_iconst (pc := 616) (v := (1)) h.1 dL_law_616 (by decide) ?_
      refine G_iadd (pc := 617) h.1 dL_law_617 ?_
      refine G_sld (pc := 618) h.1 hX hbl h.2.2.2.1 dL_law_618 ?_
      refine G_aload_n (pc := 619) h.1 dL_law_619 rfl 0 rfl ?_
      refine G_iload_n (pc := 620) h.1 dL_law_620 rfl 3 rfl ?_
      refine G_iconst (pc := 621) (v := (2)) h.1 dL_law_621 (by decide) ?_
      refine G_iadd (pc := 622) h.1 dL_law_622 ?_
      refine G_sld (pc := 623) h.1 hX hbl h.2.2.2.1 dL_law_623 ?_
      refine G_callV (pc := 624) (As := [.int (xs ((a3 + (1 : Int32))).toNatClampNeg), .int (xs ((a3 + (2 : Int32))).toNatClampNeg)]) (rest := []) h.1 h.2.2.1 lk_L_94 lN143 (eM143 _) rfl rfl (c_X9_robot x.1.2.1 y hy (xs ((a3 + (1 : Int32))).toNatClampNeg) (xs ((a3 + (2 : Int32))).toNatClampNeg) M92) rfl rfl (Nat.le_of_ble_eq_true rfl) ⟨rfl, rfl, Nat.le_of_ble_eq_true rfl, Nat.le_of_ble_eq_true rfl⟩ dL_law_624 (fun r95 M94 => ?_)
      refine G_pop (pc := 627) h.1 dL_law_627 rfl ?_
      refine G_goto (pc := 628) (tgt := 862) h.1 dL_law_628 (by decide) ?_
      exact G_sub [0, 1, 2, 3] rfl (gd_L_law_B862 hy h hX hbl kx1 kb a3 hx1 hb M94)
    refine G_ite (fun c101 => ?_) (fun c101 => ?_)
    · refine G_tabIn (z := 19) (off := 599) (tgt := 631) h.1 dL_law_32 c101 (by decide) (by decide) (by decide) rfl (by decide) ?_
      refine G_aload_n (pc := 631) h.1 dL_law_631 rfl 1 rfl ?_
      refine G_aload_n (pc := 632) h.1 dL_law_632 rfl 0 rfl ?_
      refine G_iload_n (pc := 633) h.1 dL_law_633 rfl 3 rfl ?_
      refine G_iconst (pc := 634) (v := (1)) h.1 dL_law_634 (by decide) ?_
      refine G_iadd (pc := 635) h.1 dL_law_635 ?_
      refine G_sld (pc := 636) h.1 hX hbl h.2.2.2.1 dL_law_636 ?_
      refine G_aload_n (pc := 637) h.1 dL_law_637 rfl 0 rfl ?_
      refine G_iload_n (pc := 638) h.1 dL_law_638 rfl 3 rfl ?_
      refine G_iconst (pc := 639) (v := (2)) h.1 dL_law_639 (by decide) ?_
      refine G_iadd (pc := 640) h.1 dL_law_640 ?_
      refine G_sld (pc := 641) h.1 hX hbl h.2.2.2.1 dL_law_641 ?_
      refine G_callV (pc := 642) (As := [.int (xs ((a3 + (1 : Int32))).toNatClampNeg), .int (xs ((a3 + (2 : Int32))).toNatClampNeg)]) (rest := []) h.1 h.2.2.1 lk_L_95 lN141 (eM141 _) rfl rfl (c_X8_booking x.1.2.1 y hy (xs ((a3 + (1 : Int32))).toNatClampNeg) (xs ((a3 + (2 : Int32))).toNatClampNeg) M) rfl rfl (Nat.le_of_ble_eq_true rfl) ⟨rfl, rfl, Nat.le_of_ble_eq_true rfl, Nat.le_of_ble_eq_true rfl⟩ dL_law_642 (fun r98 M97 => ?_)
      refine G_pop (pc := 645) h.1 dL_law_645 rfl ?_
      refine G_aload_n (pc := 646) h.1 dL_law_646 rfl 2 rfl ?_
      refine G_aload_n (pc := 647) h.1 dL_law_647 rfl 0 rfl ?_
      refine G_iload_n (pc := 648) h.1 dL_law_648 rfl 3 rfl ?_
      refine G_iconst (pc := 649) (v := (1)) h.1 dL_law_649 (by decide) ?_
      refine G_iadd (pc := 650) h.1 dL_law_650 ?_
      refine G_sld (pc := 651) h.1 hX hbl h.2.2.2.1 dL_law_651 ?_
      refine G_aload_n (pc := 652) h.1 dL_law_652 rfl 0 rfl ?_
      refine G_iload_n (pc := 653) h.1 dL_law_653 rfl 3 rfl ?_
      refine G_iconst (pc := 654) (v := (2)) h.1 dL_law_654 (by decide) ?_
      refine G_iadd (pc := 655) h.1 dL_law_655 ?_
      refine G_sld (pc := 656) h.1 hX hbl h.2.2.2.1 dL_law_656 ?_
      refine G_callV (pc := 657) (As := [.int (xs ((a3 + (1 : Int32))).toNatClampNeg), .int (xs ((a3 + (2 : Int32))).toNatClampNeg)]) (rest := []) h.1 h.2.2.1 lk_L_98 lN143 (eM143 _) rfl rfl (c_X9_booking x.1.2.1 y hy (xs ((a3 + (1 : Int32))).toNatClampNeg) (xs ((a3 + (2 : Int32))).toNatClampNeg) M97) rfl rfl (Nat.le_of_ble_eq_true rfl) ⟨rfl, rfl, Nat.le_of_ble_eq_true rfl, Nat.le_of_ble_eq_true rfl⟩ dL_law_657 (fun r100 M99 => ?_)
      refine G_pop (pc := 660) h.1 dL_law_660 rfl ?_
      refine G_goto (pc := 661) (tgt := 862) h.1 dL_law_661 (by decide) ?_
      exact G_sub [0, 1, 2, 3] rfl (gd_L_law_B862 hy h hX hbl kx1 kb a3 hx1 hb M99)
    refine G_ite (fun c106 => ?_) (fun c106 => ?_)
    · refine G_tabIn (z := 20) (off := 632) (tgt := 664) h.1 dL_law_32 c106 (by decide) (by decide) (by decide) rfl (by decide) ?_
      refine G_aload_n (pc := 664) h.1 dL_law_664 rfl 1 rfl ?_
      refine G_aload_n (pc := 665) h.1 dL_law_665 rfl 0 rfl ?_
      refine G_iload_n (pc := 666) h.1 dL_law_666 rfl 3 rfl ?_
      refine G_iconst (pc := 667) (v := (1)) h.1 dL_law_667 (by decide) ?_
      refine G_iadd (pc := 668) h.1 dL_law_668 ?_
      refine G_sld (pc := 669) h.1 hX hbl h.2.2.2.1 dL_law_669 ?_
      refine G_aload_n (pc := 670) h.1 dL_law_670 rfl 0 rfl ?_
      refine G_iload_n (pc := 671) h.1 dL_law_671 rfl 3 rfl ?_
      refine G_iconst (pc := 672) (v := (2)) h.1 dL_law_672 (by decide) ?_
      refine G_iadd (pc := 673) h.1 dL_law_673 ?_
      refine G_sld (pc := 674) h.1 hX hbl h.2.2.2.1 dL_law_674 ?_
      refine G_callV (pc := 675) (As := [.int (xs ((a3 + (1 : Int32))).toNatClampNeg), .int (xs ((a3 + (2 : Int32))).toNatClampNeg)]) (rest := []) h.1 h.2.2.1 lk_L_99 lN141 (eM141 _) rfl rfl (c_X8_wishTold x.1.2.1 y hy (xs ((a3 + (1 : Int32))).toNatClampNeg) (xs ((a3 + (2 : Int32))).toNatClampNeg) M) rfl rfl (Nat.le_of_ble_eq_true rfl) ⟨rfl, rfl, Nat.le_of_ble_eq_true rfl, Nat.le_of_ble_eq_true rfl⟩ dL_law_675 (fun r103 M102 => ?_)
      refine G_pop (pc := 678) h.1 dL_law_678 rfl ?_
      refine G_aload_n (pc := 679) h.1 dL_law_679 rfl 2 rfl ?_
      refine G_aload_n (pc := 680) h.1 dL_law_680 rfl 0 rfl ?_
      refine G_iload_n (pc := 681) h.1 dL_law_681 rfl 3 rfl ?_
      refine G_iconst (pc := 682) (v := (1)) h.1 dL_law_682 (by decide) ?_
      refine G_iadd (pc := 683) h.1 dL_law_683 ?_
      refine G_sld (pc := 684) h.1 hX hbl h.2.2.2.1 dL_law_684 ?_
      refine G_aload_n (pc := 685) h.1 dL_law_685 rfl 0 rfl ?_
      refine G_iload_n (pc := 686) h.1 dL_law_686 rfl 3 rfl ?_
      refine G_iconst (pc := 687) (v := (2)) h.1 dL_law_687 (by decide) ?_
      refine G_iadd (pc := 688) h.1 dL_law_688 ?_
      refine G_sld (pc := 689) h.1 hX hbl h.2.2.2.1 dL_law_689 ?_
      refine G_callV (pc := 690) (As := [.int (xs ((a3 + (1 : Int32))).toNatClampNeg), .int (xs ((a3 + (2 : Int32))).toNatClampNeg)]) (rest := []) h.1 h.2.2.1 lk_L_102 lN143 (eM143 _) rfl rfl (c_X9_wishTold x.1.2.1 y hy (xs ((a3 + (1 : Int32))).toNatClampNeg) (xs ((a3 + (2 : Int32))).toNatClampNeg) M102) rfl rfl (Nat.le_of_ble_eq_true rfl) ⟨rfl, rfl, Nat.le_of_ble_eq_true rfl, Nat.le_of_ble_eq_true rfl⟩ dL_law_690 (fun r105 M104 => ?_)
      refine G_pop (pc := 693) h.1 dL_law_693 rfl ?_
      refine G_goto (pc := 694) (tgt := 862) h.1 dL_law_694 (by decide) ?_
      exact G_sub [0, 1, 2, 3] rfl (gd_L_law_B862 hy h hX hbl kx1 kb a3 hx1 hb M104)
    refine G_ite (fun c111 => ?_) (fun c111 => ?_)
    · refine G_tabIn (z := 21) (off := 665) (tgt := 697) h.1 dL_law_32 c111 (by decide) (by decide) (by decide) rfl (by decide) ?_
      refine G_aload_n (pc := 697) h.1 dL_law_697 rfl 1 rfl ?_
      refine G_aload_n (pc := 698) h.1 dL_law_698 rfl 0 rfl ?_
      refine G_iload_n (pc := 699) h.1 dL_law_699 rfl 3 rfl ?_
      refine G_iconst (pc := 700) (v := (1)) h.1 dL_law_700 (by decide) ?_
      refine G_iadd (pc := 701) h.1 dL_law_701 ?_
      refine G_sld (pc := 702) h.1 hX hbl h.2.2.2.1 dL_law_702 ?_
      refine G_callV (pc := 703) (As := [.int (xs ((a3 + (1 : Int32))).toNatClampNeg)]) (rest := []) h.1 h.2.2.1 lk_L_103 lN141 (eM141 _) rfl rfl (c_X8_pressureIn x.1.2.1 y hy (xs ((a3 + (1 : Int32))).toNatClampNeg) M) rfl rfl (Nat.le_of_ble_eq_true rfl) ⟨rfl, rfl, Nat.le_of_ble_eq_true rfl, Nat.le_of_ble_eq_true rfl⟩ dL_law_703 (fun r108 M107 => ?_)
      refine G_pop (pc := 706) h.1 dL_law_706 rfl ?_
      refine G_aload_n (pc := 707) h.1 dL_law_707 rfl 2 rfl ?_
      refine G_aload_n (pc := 708) h.1 dL_law_708 rfl 0 rfl ?_
      refine G_iload_n (pc := 709) h.1 dL_law_709 rfl 3 rfl ?_
      refine G_iconst (pc := 710) (v := (1)) h.1 dL_law_710 (by decide) ?_
      refine G_iadd (pc := 711) h.1 dL_law_711 ?_
      refine G_sld (pc := 712) h.1 hX hbl h.2.2.2.1 dL_law_712 ?_
      refine G_callV (pc := 713) (As := [.int (xs ((a3 + (1 : Int32))).toNatClampNeg)]) (rest := []) h.1 h.2.2.1 lk_L_106 lN143 (eM143 _) rfl rfl (c_X9_pressureIn x.1.2.1 y hy (xs ((a3 + (1 : Int32))).toNatClampNeg) M107) rfl rfl (Nat.le_of_ble_eq_true rfl) ⟨rfl, rfl, Nat.le_of_ble_eq_true rfl, Nat.le_of_ble_eq_true rfl⟩ dL_law_713 (fun r110 M109 => ?_)
      refine G_pop (pc := 716) h.1 dL_law_716 rfl ?_
      refine G_goto (pc := 717) (tgt := 862) h.1 dL_law_717 (by decide) ?_
      exact G_sub [0, 1, 2, 3] rfl (gd_L_law_B862 hy h hX hbl kx1 kb a3 hx1 hb M109)
    refine G_ite (fun c116 => ?_) (fun c116 => ?_)
    · refine G_tabIn (z := 22) (off := 688) (tgt := 720) h.1 dL_law_32 c116 (by decide) (by decide) (by decide) rfl (by decide) ?_
      refine G_aload_n (pc := 720) h.1 dL_law_720 rfl 1 rfl ?_
      refine G_aload_n (pc := 721) h.1 dL_law_721 rfl 0 rfl ?_
      refine G_iload_n (pc := 722) h.1 dL_law_722 rfl 3 rfl ?_
      refine G_iconst (pc := 723) (v := (1)) h.1 dL_law_723 (by decide) ?_
      refine G_iadd (pc := 724) h.1 dL_law_724 ?_
      refine G_sld (pc := 725) h.1 hX hbl h.2.2.2.1 dL_law_725 ?_
      refine G_callV (pc := 726) (As := [.int (xs ((a3 + (1 : Int32))).toNatClampNeg)]) (rest := []) h.1 h.2.2.1 lk_L_107 lN141 (eM141 _) rfl rfl (c_X8_lowestIn x.1.2.1 y hy (xs ((a3 + (1 : Int32))).toNatClampNeg) M) rfl rfl (Nat.le_of_ble_eq_true rfl) ⟨rfl, rfl, Nat.le_of_ble_eq_true rfl, Nat.le_of_ble_eq_true rfl⟩ dL_law_726 (fun r113 M112 => ?_)
      refine G_pop (pc := 729) h.1 dL_law_729 rfl ?_
      refine G_aload_n (pc := 730) h.1 dL_law_730 rfl 2 rfl ?_
      refine G_aload_n (pc := 731) h.1 dL_law_731 rfl 0 rfl ?_
      refine G_iload_n (pc := 732) h.1 dL_law_732 rfl 3 rfl ?_
      refine G_iconst (pc := 733) (v := (1)) h.1 dL_law_733 (by decide) ?_
      refine G_iadd (pc := 734) h.1 dL_law_734 ?_
      refine G_sld (pc := 735) h.1 hX hbl h.2.2.2.1 dL_law_735 ?_
      refine G_callV (pc := 736) (As := [.int (xs ((a3 + (1 : Int32))).toNatClampNeg)]) (rest := []) h.1 h.2.2.1 lk_L_110 lN143 (eM143 _) rfl rfl (c_X9_lowestIn x.1.2.1 y hy (xs ((a3 + (1 : Int32))).toNatClampNeg) M112) rfl rfl (Nat.le_of_ble_eq_true rfl) ⟨rfl, rfl, Nat.le_of_ble_eq_true rfl, Nat.le_of_ble_eq_true rfl⟩ dL_law_736 (fun r115 M114 => ?_)
      refine G_pop (pc := 739) h.1 dL_law_739 rfl ?_
      refine G_goto (pc := 740) (tgt := 862) h.1 dL_law_740 (by decide) ?_
      exact G_sub [0, 1, 2, 3] rfl (gd_L_law_B862 hy h hX hbl kx1 kb a3 hx1 hb M114)
    refine G_ite (fun c121 => ?_) (fun c121 => ?_)
    · refine G_tabIn (z := 23) (off := 711) (tgt := 743) h.1 dL_law_32 c121 (by decide) (by decide) (by decide) rfl (by decide) ?_
      refine G_aload_n (pc := 743) h.1 dL_law_743 rfl 1 rfl ?_
      refine G_aload_n (pc := 744) h.1 dL_law_744 rfl 0 rfl ?_
      refine G_iload_n (pc := 745) h.1 dL_law_745 rfl 3 rfl ?_
      refine G_iconst (pc := 746) (v := (1)) h.1 dL_law_746 (by decide) ?_
      refine G_iadd (pc := 747) h.1 dL_law_747 ?_
      refine G_sld (pc := 748) h.1 hX hbl h.2.2.2.1 dL_law_748 ?_
      refine G_aload_n (pc := 749) h.1 dL_law_749 rfl 0 rfl ?_
      refine G_iload_n (pc := 750) h.1 dL_law_750 rfl 3 rfl ?_
      refine G_iconst (pc := 751) (v := (2)) h.1 dL_law_751 (by decide) ?_
      refine G_iadd (pc := 752) h.1 dL_law_752 ?_
      refine G_sld (pc := 753) h.1 hX hbl h.2.2.2.1 dL_law_753 ?_
      refine G_aload_n (pc := 754) h.1 dL_law_754 rfl 0 rfl ?_
      refine G_iload_n (pc := 755) h.1 dL_law_755 rfl 3 rfl ?_
      refine G_iconst (pc := 756) (v := (3)) h.1 dL_law_756 (by decide) ?_
      refine G_iadd (pc := 757) h.1 dL_law_757 ?_
      refine G_sld (pc := 758) h.1 hX hbl h.2.2.2.1 dL_law_758 ?_
      refine G_aload_n (pc := 759) h.1 dL_law_759 rfl 0 rfl ?_
      refine G_iload_n (pc := 760) h.1 dL_law_760 rfl 3 rfl ?_
      refine G_iconst (pc := 761) (v := (4)) h.1 dL_law_761 (by decide) ?_
      refine G_iadd (pc := 762) h.1 dL_law_762 ?_
      refine G_sld (pc := 763) h.1 hX hbl h.2.2.2.1 dL_law_763 ?_
      refine G_callV (pc := 764) (As := [.int (xs ((a3 + (1 : Int32))).toNatClampNeg), .int (xs ((a3 + (2 : Int32))).toNatClampNeg), .int (xs ((a3 + (3 : Int32))).toNatClampNeg), .int (xs ((a3 + (4 : Int32))).toNatClampNeg)]) (rest := []) h.1 h.2.2.1 lk_L_111 lN141 (eM141 _) rfl rfl (c_X8_why x.1.2.1 y hy (xs ((a3 + (1 : Int32))).toNatClampNeg) (xs ((a3 + (2 : Int32))).toNatClampNeg) (xs ((a3 + (3 : Int32))).toNatClampNeg) (xs ((a3 + (4 : Int32))).toNatClampNeg) M) rfl rfl (Nat.le_of_ble_eq_true rfl) ⟨rfl, rfl, Nat.le_of_ble_eq_true rfl, Nat.le_of_ble_eq_true rfl⟩ dL_law_764 (fun r118 M117 => ?_)
      refine G_pop (pc := 767) h.1 dL_law_767 rfl ?_
      refine G_aload_n (pc := 768) h.1 dL_law_768 rfl 2 rfl ?_
      refine G_aload_n (pc := 769) h.1 dL_law_769 rfl 0 rfl ?_
      refine G_iload_n (pc := 770) h.1 dL_law_770 rfl 3 rfl ?_
      refine G_iconst (pc := 771) (v := (1)) h.1 dL_law_771 (by decide) ?_
      refine G_iadd (pc := 772) h.1 dL_law_772 ?_
      refine G_sld (pc := 773) h.1 hX hbl h.2.2.2.1 dL_law_773 ?_
      refine G_aload_n (pc := 774) h.1 dL_law_774 rfl 0 rfl ?_
      refine G_iload_n (pc := 775) h.1 dL_law_775 rfl 3 rfl ?_
      refine G_iconst (pc := 776) (v := (2)) h.1 dL_law_776 (by decide) ?_
      refine G_iadd (pc := 777) h.1 dL_law_777 ?_
      refine G_sld (pc := 778) h.1 hX hbl h.2.2.2.1 dL_law_778 ?_
      refine G_aload_n (pc := 779) h.1 dL_law_779 rfl 0 rfl ?_
      refine G_iload_n (pc := 780) h.1 dL_law_780 rfl 3 rfl ?_
      refine G_iconst (pc := 781) (v := (3)) h.1 dL_law_781 (by decide) ?_
      refine G_iadd (pc := 782) h.1 dL_law_782 ?_
      refine G_sld (pc := 783) h.1 hX hbl h.2.2.2.1 dL_law_783 ?_
      refine G_aload_n (pc := 784) h.1 dL_law_784 rfl 0 rfl ?_
      refine G_iload_n (pc := 785) h.1 dL_law_785 rfl 3 rfl ?_
      refine G_iconst (pc := 786) (v := (4)) h.1 dL_law_786 (by decide) ?_
      refine G_iadd (pc := 787) h.1 dL_law_787 ?_
      refine G_sld (pc := 788) h.1 hX hbl h.2.2.2.1 dL_law_788 ?_
      refine G_callV (pc := 789) (As := [.int (xs ((a3 + (1 : Int32))).toNatClampNeg), .int (xs ((a3 + (2 : Int32))).toNatClampNeg), .int (xs ((a3 + (3 : Int32))).toNatClampNeg), .int (xs ((a3 + (4 : Int32))).toNatClampNeg)]) (rest := []) h.1 h.2.2.1 lk_L_114 lN143 (eM143 _) rfl rfl (c_X9_why x.1.2.1 y hy (xs ((a3 + (1 : Int32))).toNatClampNeg) (xs ((a3 + (2 : Int32))).toNatClampNeg) (xs ((a3 + (3 : Int32))).toNatClampNeg) (xs ((a3 + (4 : Int32))).toNatClampNeg) M117) rfl rfl (Nat.le_of_ble_eq_true rfl) ⟨rfl, rfl, Nat.le_of_ble_eq_true rfl, Nat.le_of_ble_eq_true rfl⟩ dL_law_789 (fun r120 M119 => ?_)
      refine G_pop (pc := 792) h.1 dL_law_792 rfl ?_
      refine G_goto (pc := 793) (tgt := 862) h.1 dL_law_793 (by decide) ?_
      exact G_sub [0, 1, 2, 3] rfl (gd_L_law_B862 hy h hX hbl kx1 kb a3 hx1 hb M119)
    refine G_ite (fun c126 => ?_) (fun c126 => ?_)
    · refine G_tabIn (z := 24) (off := 764) (tgt := 796) h.1 dL_law_32 c126 (by decide) (by decide) (by decide) rfl (by decide) ?_
      refine G_aload_n (pc := 796) h.1 dL_law_796 rfl 1 rfl ?_
      refine G_aload_n (pc := 797) h.1 dL_law_797 rfl 0 rfl ?_
      refine G_iload_n (pc := 798) h.1 dL_law_798 rfl 3 rfl ?_
      refine G_iconst (pc := 799) (v := (1)) h.1 dL_law_799 (by decide) ?_
      refine G_iadd (pc := 800) h.1 dL_law_800 ?_
      refine G_sld (pc := 801) h.1 hX hbl h.2.2.2.1 dL_law_801 ?_
      refine G_aload_n (pc := 802) h.1 dL_law_802 rfl 0 rfl ?_
      refine G_iload_n (pc := 803) h.1 dL_law_803 rfl 3 rfl ?_
      refine G_iconst (pc := 804) (v := (2)) h.1 dL_law_804 (by decide) ?_
      refine G_iadd (pc := 805) h.1 dL_law_805 ?_
      refine G_sld (pc := 806) h.1 hX hbl h.2.2.2.1 dL_law_806 ?_
      refine G_aload_n (pc := 807) h.1 dL_law_807 rfl 0 rfl ?_
      refine G_iload_n (pc := 808) h.1 dL_law_808 rfl 3 rfl ?_
      refine G_iconst (pc := 809) (v := (3)) h.1 dL_law_809 (by decide) ?_
      refine G_iadd (pc := 810) h.1 dL_law_810 ?_
      refine G_sld (pc := 811) h.1 hX hbl h.2.2.2.1 dL_law_811 ?_
      refine G_callV (pc := 812) (As := [.int (xs ((a3 + (1 : Int32))).toNatClampNeg), .int (xs ((a3 + (2 : Int32))).toNatClampNeg), .int (xs ((a3 + (3 : Int32))).toNatClampNeg)]) (rest := []) h.1 h.2.2.1 lk_L_115 lN141 (eM141 _) rfl rfl (c_X8_earliest x.1.2.1 y hy (xs ((a3 + (1 : Int32))).toNatClampNeg) (xs ((a3 + (2 : Int32))).toNatClampNeg) (xs ((a3 + (3 : Int32))).toNatClampNeg) M) rfl rfl (Nat.le_of_ble_eq_true rfl) ⟨rfl, rfl, Nat.le_of_ble_eq_true rfl, Nat.le_of_ble_eq_true rfl⟩ dL_law_812 (fun r123 M122 => ?_)
      refine G_aload_n (pc := 815) h.1 dL_law_815 rfl 2 rfl ?_
      refine G_aload_n (pc := 816) h.1 dL_law_816 rfl 0 rfl ?_
      refine G_iload_n (pc := 817) h.1 dL_law_817 rfl 3 rfl ?_
      refine G_iconst (pc := 818) (v := (1)) h.1 dL_law_818 (by decide) ?_
      refine G_iadd (pc := 819) h.1 dL_law_819 ?_
      refine G_sld (pc := 820) h.1 hX hbl h.2.2.2.1 dL_law_820 ?_
      refine G_aload_n (pc := 821) h.1 dL_law_821 rfl 0 rfl ?_
      refine G_iload_n (pc := 822) h.1 dL_law_822 rfl 3 rfl ?_
      refine G_iconst (pc := 823) (v := (2)) h.1 dL_law_823 (by decide) ?_
      refine G_iadd (pc := 824) h.1 dL_law_824 ?_
      refine G_sld (pc := 825) h.1 hX hbl h.2.2.2.1 dL_law_825 ?_
      refine G_aload_n (pc := 826) h.1 dL_law_826 rfl 0 rfl ?_
      refine G_iload_n (pc := 827) h.1 dL_law_827 rfl 3 rfl ?_
      refine G_iconst (pc := 828) (v := (3)) h.1 dL_law_828 (by decide) ?_
      refine G_iadd (pc := 829) h.1 dL_law_829 ?_
      refine G_sld (pc := 830) h.1 hX hbl h.2.2.2.1 dL_law_830 ?_
      refine G_callV (pc := 831) (As := [.int (xs ((a3 + (1 : Int32))).toNatClampNeg), .int (xs ((a3 + (2 : Int32))).toNatClampNeg), .int (xs ((a3 + (3 : Int32))).toNatClampNeg)]) (rest := [.int r123]) h.1 h.2.2.1 lk_L_118 lN143 (eM143 _) rfl rfl (c_X9_earliest x.1.2.1 y hy (xs ((a3 + (1 : Int32))).toNatClampNeg) (xs ((a3 + (2 : Int32))).toNatClampNeg) (xs ((a3 + (3 : Int32))).toNatClampNeg) M122) rfl rfl (Nat.le_of_ble_eq_true rfl) ⟨rfl, rfl, Nat.le_of_ble_eq_true rfl, Nat.le_of_ble_eq_true rfl⟩ dL_law_831 (fun r125 M124 => ?_)
      refine G_icmp_eq (pc := 834) (tgt := 862) h.1 dL_law_834 (by decide) ?_ ?_
      · exact G_sub [0, 1, 2, 3] rfl (gd_L_law_B862 hy h hX hbl kx1 kb a3 hx1 hb M124)
      · refine G_iconst (pc := 837) (v := (0)) h.1 dL_law_837 (by decide) ?_
        exact G_lret0 (pc := 838) h dL_law_838
    refine G_ite (fun c131 => ?_) (fun c131 => ?_)
    · refine G_tabIn (z := 25) (off := 807) (tgt := 839) h.1 dL_law_32 c131 (by decide) (by decide) (by decide) rfl (by decide) ?_
      refine G_aload_n (pc := 839) h.1 dL_law_839 rfl 1 rfl ?_
      refine G_aload_n (pc := 840) h.1 dL_law_840 rfl 0 rfl ?_
      refine G_iload_n (pc := 841) h.1 dL_law_841 rfl 3 rfl ?_
      refine G_iconst (pc := 842) (v := (1)) h.1 dL_law_842 (by decide) ?_
      refine G_iadd (pc := 843) h.1 dL_law_843 ?_
      refine G_sld (pc := 844) h.1 hX hbl h.2.2.2.1 dL_law_844 ?_
      refine G_callV (pc := 845) (As := [.int (xs ((a3 + (1 : Int32))).toNatClampNeg)]) (rest := []) h.1 h.2.2.1 lk_L_119 lN141 (eM141 _) rfl rfl (c_X8_count x.1.2.1 y hy (xs ((a3 + (1 : Int32))).toNatClampNeg) M) rfl rfl (Nat.le_of_ble_eq_true rfl) ⟨rfl, rfl, Nat.le_of_ble_eq_true rfl, Nat.le_of_ble_eq_true rfl⟩ dL_law_845 (fun r128 M127 => ?_)
      refine G_pop (pc := 848) h.1 dL_law_848 rfl ?_
      refine G_aload_n (pc := 849) h.1 dL_law_849 rfl 2 rfl ?_
      refine G_aload_n (pc := 850) h.1 dL_law_850 rfl 0 rfl ?_
      refine G_iload_n (pc := 851) h.1 dL_law_851 rfl 3 rfl ?_
      refine G_iconst (pc := 852) (v := (1)) h.1 dL_law_852 (by decide) ?_
      refine G_iadd (pc := 853) h.1 dL_law_853 ?_
      refine G_sld (pc := 854) h.1 hX hbl h.2.2.2.1 dL_law_854 ?_
      refine G_callV (pc := 855) (As := [.int (xs ((a3 + (1 : Int32))).toNatClampNeg)]) (rest := []) h.1 h.2.2.1 lk_L_122 lN143 (eM143 _) rfl rfl (c_X9_count x.1.2.1 y hy (xs ((a3 + (1 : Int32))).toNatClampNeg) M127) rfl rfl (Nat.le_of_ble_eq_true rfl) ⟨rfl, rfl, Nat.le_of_ble_eq_true rfl, Nat.le_of_ble_eq_true rfl⟩ dL_law_855 (fun r130 M129 => ?_)
      refine G_pop (pc := 858) h.1 dL_law_858 rfl ?_
      refine G_goto (pc := 859) (tgt := 862) h.1 dL_law_859 (by decide) ?_
      exact G_sub [0, 1, 2, 3] rfl (gd_L_law_B862 hy h hX hbl kx1 kb a3 hx1 hb M129)
    refine G_tabOut (tgt := 862) h.1 dL_law_32 (by have hz := And.intro trivial trivial; have z0 := g_ne c6 0 (by decide); have z1 := g_ne c11 1 (by decide); have z2 := g_ne c16 2 (by decide); have z3 := g_ne c21 3 (by decide); have z4 := g_ne c26 4 (by decide); have z5 := g_ne c31 5 (by decide); have z6 := g_ne c36 6 (by decide); have z7 := g_ne c41 7 (by decide); have z8 := g_ne c46 8 (by decide); have z9 := g_ne c51 9 (by decide); have z10 := g_ne c56 10 (by decide); have z11 := g_ne c61 11 (by decide); have z12 := g_ne c66 12 (by decide); have z13 := g_ne c71 13 (by decide); have z14 := g_ne c76 14 (by decide); have z15 := g_ne c81 15 (by decide); have z16 := g_ne c86 16 (by decide); have z17 := g_ne c91 17 (by decide); have z18 := g_ne c96 18 (by decide); have z19 := g_ne c101 19 (by decide); have z20 := g_ne c106 20 (by decide); have z21 := g_ne c111 21 (by decide); have z22 := g_ne c116 22 (by decide); have z23 := g_ne c121 23 (by decide); have z24 := g_ne c126 24 (by decide); have z25 := g_ne c131 25 (by decide); omega) (by decide) ?_
    exact G_sub [0, 1, 2, 3] rfl (gd_L_law_B862 hy h hX hbl kx1 kb a3 hx1 hb M)
set_option maxRecDepth 20000 in
theorem gd_L_law_L18 {x : Cx} {y : Cy} (hy : Inj y) {b : Nat} (h : OkL x y b) {xs : Nat → Int32} {sL : Nat} (hX : va_X b sL xs x.1.2.2.2.2 x.1.2.2.2.2.heap) (hbl : b < x.1.2.2.2.2.heap.size) (kx1 : Mem → Ans) (hx1 : ∀ M0 : Mem, G x y 868 [] [] M0 (kx1 M0)) : ∀ (n : Nat) (a3 : Int32) (M : Mem), G x y 18 [(0, .ref b), (1, .ref (y.2.1 141)), (2, .ref (y.2.1 143)), (3, .int a3)] [] M (d_L_law_L18 xs sL kx1 n a3 M) := by
  intro n
  induction n with
  | zero => intro a3 M; exact G_none
  | succ n ih => intro a3 M; exact gd_L_law_L18_body hy h hX hbl kx1 hx1 _ ih a3 M
set_option maxRecDepth 20000 in
theorem g_law {x : Cx} {y : Cy} (hy : Inj y) {b : Nat} (h : OkL x y b) {xs : Nat → Int32} {sL : Nat} (hX : va_X b sL xs x.1.2.2.2.2 x.1.2.2.2.2.heap) (hbl : b < x.1.2.2.2.2.heap.size) (M : Mem) : G x y 18 [(0, .ref b), (1, .ref (y.2.1 141)), (2, .ref (y.2.1 143)), (3, .int (0 : Int32))] [] M (d_law xs sL M) := by
  unfold d_law
  refine G_sub [0, 1, 2, 3] rfl (gd_L_law_L18 hy h hX hbl _ (fun M132 => ?_) fuelN (0 : Int32) M)
  refine G_iconst (pc := 868) (v := (1)) h.1 dL_law_868 (by decide) ?_
  exact G_lret1 (pc := 869) h dL_law_869
