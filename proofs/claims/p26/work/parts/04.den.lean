def d_X0_has (q0 : Nat) (p1 : Int32) (M : Mem) : Ans :=
  (if p1 < 0 then (some ((0 : Int32), M)) else (if (M (sI q0 6) 0) ≤ p1 then (some ((0 : Int32), M)) else (some ((1 : Int32), M))))
def d_X0_append (q0 : Nat) (p1 : Int32) (p2 : Int32) (p3 : Int32) (M : Mem) : Ans :=
  (if (M (sI q0 6) 0) < (60 : Int32) then (chk (M (sI q0 6) 0) 60 (bnd (mup M (sI q0 7) ((M (sI q0 6) 0)).toNatClampNeg p1) fun M1 => (chk (M1 (sI q0 6) 0) 60 (bnd (mup M1 (sI q0 8) ((M1 (sI q0 6) 0)).toNatClampNeg p2) fun M2 => (chk (M2 (sI q0 6) 0) 60 (bnd (mup M2 (sI q0 9) ((M2 (sI q0 6) 0)).toNatClampNeg p3) fun M3 => (chk (M3 (sI q0 6) 0) 60 (bnd (mup M3 (sI q0 10) ((M3 (sI q0 6) 0)).toNatClampNeg (0 : Int32)) fun M4 => (chk (M4 (sI q0 6) 0) 60 (bnd (mup M4 (sI q0 11) ((M4 (sI q0 6) 0)).toNatClampNeg (0 : Int32)) fun M5 => (bnd (mup M5 (sI q0 6) 0 ((M5 (sI q0 6) 0) + (1 : Int32))) fun M6 => (some (((M6 (sI q0 6) 0) - (1 : Int32)), M6))))))))))))) else (some ((-3 : Int32), M)))
def d_X0_stateOf (q0 : Nat) (p1 : Int32) (M : Mem) : Ans :=
  (bd (d_X0_has q0 p1 M) fun r2 M1 => (if r2 = 0 then (some ((-1 : Int32), M1)) else (chk p1 60 (some ((M1 (sI q0 10) (p1).toNatClampNeg), M1)))))
def d_X0_isOpen (q0 : Nat) (p1 : Int32) (M : Mem) : Ans :=
  (bd (d_X0_has q0 p1 M) fun r2 M1 => (if r2 = 0 then (some ((0 : Int32), M1)) else (chk p1 60 (if (M1 (sI q0 10) (p1).toNatClampNeg) = 0 then (some ((1 : Int32), M1)) else (chk p1 60 (if (M1 (sI q0 10) (p1).toNatClampNeg) = (1 : Int32) then (some ((1 : Int32), M1)) else (some ((0 : Int32), M1))))))))
def d_X0_keepsBusy (q0 : Nat) (p1 : Int32) (p2 : Int32) (M : Mem) : Ans :=
  (bd (d_X0_has q0 p1 M) fun r2 M1 => (if r2 = 0 then (some ((0 : Int32), M1)) else (chk p1 60 (if (M1 (sI q0 7) (p1).toNatClampNeg) = p2 then (chk p1 60 (if (M1 (sI q0 10) (p1).toNatClampNeg) = (3 : Int32) then (some ((0 : Int32), M1)) else (chk p1 60 (if (M1 (sI q0 10) (p1).toNatClampNeg) = (4 : Int32) then (some ((0 : Int32), M1)) else (some ((1 : Int32), M1)))))) else (some ((0 : Int32), M1))))))
def d_X0_inState_B25 (q0 : Nat) (kx1 : Int32 → Mem → Ans) (kb : Int32 → Int32 → Mem → Ans) (a1 : Int32) (a2 : Int32) (a3 : Int32) (M : Mem) : Ans :=
  (bnd (a3 + (1)) fun v1 => (kb a2 v1 M))
def d_X0_inState_L4_body (q0 : Nat) (a1 : Int32) (kx1 : Int32 → Mem → Ans) (kb : Int32 → Int32 → Mem → Ans) (a2 : Int32) (a3 : Int32) (M : Mem) : Ans :=
  (if (M (sI q0 6) 0) ≤ a3 then (kx1 a2 M) else (chk a3 60 (if (M (sI q0 10) (a3).toNatClampNeg) = a1 then (bnd (a2 + (1)) fun v2 => (d_X0_inState_B25 q0 kx1 kb a1 v2 a3 M)) else (d_X0_inState_B25 q0 kx1 kb a1 a2 a3 M))))
def d_X0_inState_L4 (q0 : Nat) (a1 : Int32) (kx1 : Int32 → Mem → Ans) : Nat → Int32 → Int32 → Mem → Ans
  | 0 => fun _ _ _ => none
  | n + 1 => fun a2 a3 M => d_X0_inState_L4_body q0 a1 kx1 (d_X0_inState_L4 q0 a1 kx1 n) a2 a3 M
def d_X0_inState (q0 : Nat) (p1 : Int32) (M : Mem) : Ans :=
  (d_X0_inState_L4 q0 p1 (fun v3 M4 => (some (v3, M4))) fuelN (0 : Int32) (0 : Int32) M)
def d_X0_ofRobot_B39 (q0 : Nat) (kx1 : Int32 → Mem → Ans) (kb : Int32 → Int32 → Mem → Ans) (a1 : Int32) (a2 : Int32) (a3 : Int32) (a4 : Int32) (M : Mem) : Ans :=
  (bnd (a4 + (1)) fun v1 => (kb a3 v1 M))
def d_X0_ofRobot_L5_body (q0 : Nat) (a1 : Int32) (a2 : Int32) (kx1 : Int32 → Mem → Ans) (kb : Int32 → Int32 → Mem → Ans) (a3 : Int32) (a4 : Int32) (M : Mem) : Ans :=
  (if (M (sI q0 6) 0) ≤ a4 then (kx1 a3 M) else (chk a4 60 (if (M (sI q0 7) (a4).toNatClampNeg) = a1 then (chk a4 60 (if (M (sI q0 10) (a4).toNatClampNeg) = a2 then (bnd (a3 + (1)) fun v2 => (d_X0_ofRobot_B39 q0 kx1 kb a1 a2 v2 a4 M)) else (d_X0_ofRobot_B39 q0 kx1 kb a1 a2 a3 a4 M))) else (d_X0_ofRobot_B39 q0 kx1 kb a1 a2 a3 a4 M))))
def d_X0_ofRobot_L5 (q0 : Nat) (a1 : Int32) (a2 : Int32) (kx1 : Int32 → Mem → Ans) : Nat → Int32 → Int32 → Mem → Ans
  | 0 => fun _ _ _ => none
  | n + 1 => fun a3 a4 M => d_X0_ofRobot_L5_body q0 a1 a2 kx1 (d_X0_ofRobot_L5 q0 a1 a2 kx1 n) a3 a4 M
def d_X0_ofRobot (q0 : Nat) (p1 : Int32) (p2 : Int32) (M : Mem) : Ans :=
  (d_X0_ofRobot_L5 q0 p1 p2 (fun v3 M4 => (some (v3, M4))) fuelN (0 : Int32) (0 : Int32) M)
def d_X0_doneOfRecipe_B35 (q0 : Nat) (kx1 : Int32 → Mem → Ans) (kb : Int32 → Int32 → Mem → Ans) (a1 : Int32) (a2 : Int32) (a3 : Int32) (M : Mem) : Ans :=
  (bnd (a3 + (1)) fun v1 => (kb a2 v1 M))
def d_X0_doneOfRecipe_L4_body (q0 : Nat) (a1 : Int32) (kx1 : Int32 → Mem → Ans) (kb : Int32 → Int32 → Mem → Ans) (a2 : Int32) (a3 : Int32) (M : Mem) : Ans :=
  (if (M (sI q0 6) 0) ≤ a3 then (kx1 a2 M) else (chk a3 60 (if (M (sI q0 8) (a3).toNatClampNeg) = a1 then (chk a3 60 (if (M (sI q0 10) (a3).toNatClampNeg) = (2 : Int32) then (bnd (a2 + (1)) fun v2 => (d_X0_doneOfRecipe_B35 q0 kx1 kb a1 v2 a3 M)) else (d_X0_doneOfRecipe_B35 q0 kx1 kb a1 a2 a3 M))) else (d_X0_doneOfRecipe_B35 q0 kx1 kb a1 a2 a3 M))))
def d_X0_doneOfRecipe_L4 (q0 : Nat) (a1 : Int32) (kx1 : Int32 → Mem → Ans) : Nat → Int32 → Int32 → Mem → Ans
  | 0 => fun _ _ _ => none
  | n + 1 => fun a2 a3 M => d_X0_doneOfRecipe_L4_body q0 a1 kx1 (d_X0_doneOfRecipe_L4 q0 a1 kx1 n) a2 a3 M
def d_X0_doneOfRecipe (q0 : Nat) (p1 : Int32) (M : Mem) : Ans :=
  (d_X0_doneOfRecipe_L4 q0 p1 (fun v3 M4 => (some (v3, M4))) fuelN (0 : Int32) (0 : Int32) M)
def d_X0_copyFrom (q0 : Nat) (q1 : Nat) (M : Mem) : Ans :=
  (bnd (mup M (sI q0 6) 0 (M (sI q1 6) 0)) fun M1 => (bnd (mset M1 (sI q0 7) (va_cpy (M1 (sI q1 7)) (M1 (sI q0 7)) 0 0 60)) fun M2 => (bnd (mset M2 (sI q0 8) (va_cpy (M2 (sI q1 8)) (M2 (sI q0 8)) 0 0 60)) fun M3 => (bnd (mset M3 (sI q0 9) (va_cpy (M3 (sI q1 9)) (M3 (sI q0 9)) 0 0 60)) fun M4 => (bnd (mset M4 (sI q0 10) (va_cpy (M4 (sI q1 10)) (M4 (sI q0 10)) 0 0 60)) fun M5 => (bnd (mset M5 (sI q0 11) (va_cpy (M5 (sI q1 11)) (M5 (sI q0 11)) 0 0 60)) fun M6 => (some (0, M6))))))))
def d_X4_has (q0 : Nat) (p1 : Int32) (M : Mem) : Ans :=
  (if p1 < 0 then (some ((0 : Int32), M)) else (if (M (sI q0 1) 0) ≤ p1 then (some ((0 : Int32), M)) else (some ((1 : Int32), M))))
def d_X1_addRow_B94 (q0 : Nat) (q1 : Nat) (a3 : Int32) (a4 : Int32) (s0 : Int32) (s1 : Int32) (M : Mem) : Ans :=
  (chk s1 61 (bnd (mup M (cI q0 3) (s1).toNatClampNeg s0) fun M7 => (chk (M7 (cI q0 0) 6) 61 (bnd (mup M7 (cI q0 4) ((M7 (cI q0 0) 6)).toNatClampNeg (-5 : Int32)) fun M8 => (chk (M8 (cI q0 0) 6) 61 (bnd (mup M8 (cI q0 5) ((M8 (cI q0 0) 6)).toNatClampNeg (1000000 : Int32)) fun M9 => (chk a3 8 (chk (M9 (cI q0 0) 6) 61 (bnd (mup M9 (cI q0 6) ((M9 (cI q0 0) 6)).toNatClampNeg (M9 (sI q1 2) (a3).toNatClampNeg)) fun M10 => (chk a3 8 (chk (M10 (cI q0 0) 6) 61 (bnd (mup M10 (cI q0 7) ((M10 (cI q0 0) 6)).toNatClampNeg (M10 (sI q1 3) (a3).toNatClampNeg)) fun M11 => (chk (M11 (cI q0 0) 6) 61 (bnd (mup M11 (cI q0 8) ((M11 (cI q0 0) 6)).toNatClampNeg a4) fun M12 => (chk a3 8 (chk (M12 (cI q0 0) 6) 61 (bnd (mup M12 (cI q0 9) ((M12 (cI q0 0) 6)).toNatClampNeg ((a4 + (M12 (sI q1 4) (a3).toNatClampNeg)) - (1 : Int32))) fun M13 => (bnd (mup M13 (cI q0 0) 6 ((M13 (cI q0 0) 6) + (1 : Int32))) fun M14 => (some (0, M14))))))))))))))))))))
def d_X1_addRow_B67 (q0 : Nat) (q1 : Nat) (a2 : Int32) (a3 : Int32) (a4 : Int32) (a5 : Int32) (s0 : Int32) (s1 : Int32) (M : Mem) : Ans :=
  (chk s1 61 (bnd (mup M (cI q0 2) (s1).toNatClampNeg s0) fun M6 => (if a5 = 0 then (d_X1_addRow_B94 q0 q1 a3 a4 (0 : Int32) (M6 (cI q0 0) 6) M6) else (chk a2 60 (d_X1_addRow_B94 q0 q1 a3 a4 (M6 (sI q1 11) (a2).toNatClampNeg) (M6 (cI q0 0) 6) M6)))))
def d_X1_addRow (q0 : Nat) (q1 : Nat) (p2 : Int32) (p3 : Int32) (p4 : Int32) (M : Mem) : Ans :=
  (if (61 : Int32) ≤ (M (cI q0 0) 6) then (some (0, M)) else (bd (d_X4_has q1 p3 M) fun r2 M1 => (if r2 = 0 then (some (0, M1)) else (bd (d_X0_has q1 p2 M1) fun r4 M3 => (chk (M3 (cI q0 0) 6) 61 (bnd (mup M3 (cI q0 1) ((M3 (cI q0 0) 6)).toNatClampNeg p2) fun M5 => (if r4 = 0 then (d_X1_addRow_B67 q0 q1 p2 p3 p4 r4 (0 : Int32) (M5 (cI q0 0) 6) M5) else (chk p2 60 (d_X1_addRow_B67 q0 q1 p2 p3 p4 r4 (M5 (sI q1 10) (p2).toNatClampNeg) (M5 (cI q0 0) 6) M5)))))))))
def d_X1_beginWith_B132 (q0 : Nat) (q1 : Nat) (kx1 : Mem → Ans) (kb : Int32 → Mem → Ans) (a2 : Int32) (a3 : Int32) (a4 : Int32) (a5 : Int32) (M : Mem) : Ans :=
  (bnd (a5 + (1)) fun v8 => (kb v8 M))
def d_X1_beginWith_B111 (q0 : Nat) (q1 : Nat) (kx1 : Mem → Ans) (kb : Int32 → Mem → Ans) (a2 : Int32) (a3 : Int32) (a4 : Int32) (a5 : Int32) (M : Mem) : Ans :=
  (if a5 = a2 then (if a4 = (-1 : Int32) then (d_X1_beginWith_B132 q0 q1 kx1 kb a2 a3 a4 a5 M) else (bd (d_X1_addRow q0 q1 a2 a3 a4 M) fun r10 M9 => (d_X1_beginWith_B132 q0 q1 kx1 kb a2 a3 a4 a5 M9))) else (d_X1_beginWith_B132 q0 q1 kx1 kb a2 a3 a4 a5 M))
def d_X1_beginWith_L51_body (q0 : Nat) (q1 : Nat) (a2 : Int32) (a3 : Int32) (a4 : Int32) (kx1 : Mem → Ans) (kb : Int32 → Mem → Ans) (a5 : Int32) (M : Mem) : Ans :=
  (if (M (sI q1 6) 0) ≤ a5 then (kx1 M) else (if a5 = a2 then (d_X1_beginWith_B111 q0 q1 kx1 kb a2 a3 a4 a5 M) else (bd (d_X0_isOpen q1 a5 M) fun r12 M11 => (if r12 = 0 then (d_X1_beginWith_B111 q0 q1 kx1 kb a2 a3 a4 a5 M11) else (chk a5 60 (chk a5 60 (bd (d_X1_addRow q0 q1 a5 (M11 (sI q1 8) (a5).toNatClampNeg) (M11 (sI q1 9) (a5).toNatClampNeg) M11) fun r14 M13 => (d_X1_beginWith_B132 q0 q1 kx1 kb a2 a3 a4 a5 M13))))))))
def d_X1_beginWith_L51 (q0 : Nat) (q1 : Nat) (a2 : Int32) (a3 : Int32) (a4 : Int32) (kx1 : Mem → Ans) : Nat → Int32 → Mem → Ans
  | 0 => fun _ _ => none
  | n + 1 => fun a5 M => d_X1_beginWith_L51_body q0 q1 a2 a3 a4 kx1 (d_X1_beginWith_L51 q0 q1 a2 a3 a4 kx1 n) a5 M
def d_X1_beginWith_B164 (q0 : Nat) (q1 : Nat) (M : Mem) : Ans :=
  (bnd (mup M (cI q0 0) 7 (M (cI q0 0) 6)) fun M16 => (some (0, M16)))
def d_X1_beginWith (q0 : Nat) (q1 : Nat) (p2 : Int32) (p3 : Int32) (p4 : Int32) (M : Mem) : Ans :=
  (bnd (mup M (cI q0 0) 0 (M (sI q1 0) 0)) fun M1 => (bnd (mup M1 (cI q0 0) 1 (M1 (sI q1 0) 1)) fun M2 => (bnd (mup M2 (cI q0 0) 2 (M2 (sI q1 0) 2)) fun M3 => (bnd (mup M3 (cI q0 0) 3 (M3 (sI q1 0) 3)) fun M4 => (bnd (mup M4 (cI q0 0) 4 (1000000 : Int32)) fun M5 => (bnd (mup M5 (cI q0 0) 5 (0 : Int32)) fun M6 => (bnd (mup M6 (cI q0 0) 6 (0 : Int32)) fun M7 => (d_X1_beginWith_L51 q0 q1 p2 p3 p4 (fun M15 => (if p2 < (M15 (sI q1 6) 0) then (d_X1_beginWith_B164 q0 q1 M15) else (if p4 = (-1 : Int32) then (d_X1_beginWith_B164 q0 q1 M15) else (bd (d_X1_addRow q0 q1 p2 p3 p4 M15) fun r18 M17 => (d_X1_beginWith_B164 q0 q1 M17))))) fuelN (0 : Int32) M7))))))))
def d_X1_begin (q0 : Nat) (q1 : Nat) (M : Mem) : Ans :=
  (bd (d_X1_beginWith q0 q1 (-1 : Int32) (-1 : Int32) (-1 : Int32) M) fun r2 M1 => (some (0, M1)))
def d_X1_drawFor_B100 (q0 : Nat) (a1 : Int32) (s0 : Int32) (M : Mem) : Ans :=
  (bnd (mup M (cI q0 0) 1 ((M (cI q0 0) 1) - s0)) fun M2 => (bnd (mup M2 (cI q0 0) 5 ((M2 (cI q0 0) 5) + s0)) fun M3 => (chk a1 61 (chk a1 61 (bnd (mup M3 (cI q0 3) (a1).toNatClampNeg ((M3 (cI q0 3) (a1).toNatClampNeg) + (1 : Int32))) fun M4 => (chk a1 61 (bnd (mup M4 (cI q0 2) (a1).toNatClampNeg (1 : Int32)) fun M5 => (chk a1 61 (if (M5 (cI q0 0) 0) = (M5 (cI q0 9) (a1).toNatClampNeg) then (chk a1 61 (bnd (mup M5 (cI q0 2) (a1).toNatClampNeg (2 : Int32)) fun M6 => (bnd (mup M6 (cI q0 0) 7 ((M6 (cI q0 0) 7) - (1 : Int32))) fun M7 => (some (0, M7))))) else (some (0, M5)))))))))))
def d_X1_drawFor_B42 (q0 : Nat) (a1 : Int32) (a2 : Int32) (M : Mem) : Ans :=
  (if 0 ≤ a2 then (chk a1 61 (if (M (cI q0 0) 1) ≤ (M (cI q0 7) (a1).toNatClampNeg) then (d_X1_drawFor_B100 q0 a1 (M (cI q0 0) 1) M) else (chk a1 61 (d_X1_drawFor_B100 q0 a1 (M (cI q0 7) (a1).toNatClampNeg) M)))) else (chk a1 61 (bnd (mup M (cI q0 2) (a1).toNatClampNeg (3 : Int32)) fun M8 => (chk a1 61 (bnd (mup M8 (cI q0 4) (a1).toNatClampNeg (M8 (cI q0 0) 0)) fun M9 => (bnd (mup M9 (cI q0 0) 7 ((M9 (cI q0 0) 7) - (1 : Int32))) fun M10 => (some (0, M10))))))))
def d_X1_drawFor (q0 : Nat) (p1 : Int32) (M : Mem) : Ans :=
  (if p1 < 0 then (some (0, M)) else (if p1 < (M (cI q0 0) 6) then (chk p1 61 (bnd ((M (cI q0 0) 1) - (M (cI q0 6) (p1).toNatClampNeg)) fun v1 => (chk p1 61 (if (M (cI q0 5) (p1).toNatClampNeg) ≤ v1 then (d_X1_drawFor_B42 q0 p1 v1 M) else (chk p1 61 (bnd (mup M (cI q0 5) (p1).toNatClampNeg v1) fun M11 => (d_X1_drawFor_B42 q0 p1 v1 M11))))))) else (some (0, M))))
def d_X1_passTick_B81 (q0 : Nat) (kx1 : Mem → Ans) (kb : Int32 → Mem → Ans) (a1 : Int32) (M : Mem) : Ans :=
  (bnd (a1 + (1)) fun v3 => (kb v3 M))
def d_X1_passTick_L32_body (q0 : Nat) (kx1 : Mem → Ans) (kb : Int32 → Mem → Ans) (a1 : Int32) (M : Mem) : Ans :=
  (if (M (cI q0 0) 6) ≤ a1 then (kx1 M) else (chk a1 61 (if (M (cI q0 0) 0) < (M (cI q0 8) (a1).toNatClampNeg) then (d_X1_passTick_B81 q0 kx1 kb a1 M) else (chk a1 61 (if (M (cI q0 9) (a1).toNatClampNeg) < (M (cI q0 0) 0) then (d_X1_passTick_B81 q0 kx1 kb a1 M) else (chk a1 61 (if (M (cI q0 2) (a1).toNatClampNeg) = (3 : Int32) then (d_X1_passTick_B81 q0 kx1 kb a1 M) else (bd (d_X1_drawFor q0 a1 M) fun r5 M4 => (d_X1_passTick_B81 q0 kx1 kb a1 M4)))))))))
def d_X1_passTick_L32 (q0 : Nat) (kx1 : Mem → Ans) : Nat → Int32 → Mem → Ans
  | 0 => fun _ _ => none
  | n + 1 => fun a1 M => d_X1_passTick_L32_body q0 kx1 (d_X1_passTick_L32 q0 kx1 n) a1 M
def d_X1_passTick (q0 : Nat) (M : Mem) : Ans :=
  (bnd (mup M (cI q0 0) 0 ((M (cI q0 0) 0) + (1 : Int32))) fun M1 => (bnd (mup M1 (cI q0 0) 1 (imin (M1 (cI q0 0) 2) ((M1 (cI q0 0) 1) + (M1 (cI q0 0) 3)))) fun M2 => (d_X1_passTick_L32 q0 (fun M6 => (bnd (mup M6 (cI q0 0) 4 (imin (M6 (cI q0 0) 4) (M6 (cI q0 0) 1))) fun M7 => (some (0, M7)))) fuelN (0 : Int32) M2)))
def d_X1_passTicks_L2_body (q0 : Nat) (a1 : Int32) (kx1 : Mem → Ans) (kb : Int32 → Mem → Ans) (a2 : Int32) (M : Mem) : Ans :=
  (if a1 ≤ a2 then (kx1 M) else (bd (d_X1_passTick q0 M) fun r2 M1 => (bnd (a2 + (1)) fun v3 => (kb v3 M1))))
def d_X1_passTicks_L2 (q0 : Nat) (a1 : Int32) (kx1 : Mem → Ans) : Nat → Int32 → Mem → Ans
  | 0 => fun _ _ => none
  | n + 1 => fun a2 M => d_X1_passTicks_L2_body q0 a1 kx1 (d_X1_passTicks_L2 q0 a1 kx1 n) a2 M
def d_X1_passTicks (q0 : Nat) (p1 : Int32) (M : Mem) : Ans :=
  (d_X1_passTicks_L2 q0 p1 (fun M4 => (some (0, M4))) fuelN (0 : Int32) M)
def d_X1_passToEnd_L2_body (q0 : Nat) (kx1 : Mem → Ans) (kb : Int32 → Mem → Ans) (a1 : Int32) (M : Mem) : Ans :=
  (if (80 : Int32) ≤ a1 then (kx1 M) else (if (M (cI q0 0) 7) ≤ 0 then (kx1 M) else (bd (d_X1_passTick q0 M) fun r2 M1 => (bnd (a1 + (1)) fun v3 => (kb v3 M1)))))
def d_X1_passToEnd_L2 (q0 : Nat) (kx1 : Mem → Ans) : Nat → Int32 → Mem → Ans
  | 0 => fun _ _ => none
  | n + 1 => fun a1 M => d_X1_passToEnd_L2_body q0 kx1 (d_X1_passToEnd_L2 q0 kx1 n) a1 M
def d_X1_passToEnd (q0 : Nat) (M : Mem) : Ans :=
  (d_X1_passToEnd_L2 q0 (fun M4 => (some (0, M4))) fuelN (0 : Int32) M)
def d_X1_rowOf_L2_body (q0 : Nat) (a1 : Int32) (kx1 : Mem → Ans) (kb : Int32 → Mem → Ans) (a2 : Int32) (M : Mem) : Ans :=
  (if (M (cI q0 0) 6) ≤ a2 then (kx1 M) else (chk a2 61 (if (M (cI q0 1) (a2).toNatClampNeg) = a1 then (some (a2, M)) else (bnd (a2 + (1)) fun v1 => (kb v1 M)))))
def d_X1_rowOf_L2 (q0 : Nat) (a1 : Int32) (kx1 : Mem → Ans) : Nat → Int32 → Mem → Ans
  | 0 => fun _ _ => none
  | n + 1 => fun a2 M => d_X1_rowOf_L2_body q0 a1 kx1 (d_X1_rowOf_L2 q0 a1 kx1 n) a2 M
def d_X1_rowOf (q0 : Nat) (p1 : Int32) (M : Mem) : Ans :=
  (d_X1_rowOf_L2 q0 p1 (fun M2 => (some ((-1 : Int32), M2))) fuelN (0 : Int32) M)
def d_X1_countSpoiled_B25 (q0 : Nat) (kx1 : Int32 → Mem → Ans) (kb : Int32 → Int32 → Mem → Ans) (a1 : Int32) (a2 : Int32) (M : Mem) : Ans :=
  (bnd (a2 + (1)) fun v1 => (kb a1 v1 M))
def d_X1_countSpoiled_L4_body (q0 : Nat) (kx1 : Int32 → Mem → Ans) (kb : Int32 → Int32 → Mem → Ans) (a1 : Int32) (a2 : Int32) (M : Mem) : Ans :=
  (if (M (cI q0 0) 6) ≤ a2 then (kx1 a1 M) else (chk a2 61 (if (M (cI q0 2) (a2).toNatClampNeg) = (3 : Int32) then (bnd (a1 + (1)) fun v2 => (d_X1_countSpoiled_B25 q0 kx1 kb v2 a2 M)) else (d_X1_countSpoiled_B25 q0 kx1 kb a1 a2 M))))
def d_X1_countSpoiled_L4 (q0 : Nat) (kx1 : Int32 → Mem → Ans) : Nat → Int32 → Int32 → Mem → Ans
  | 0 => fun _ _ _ => none
  | n + 1 => fun a1 a2 M => d_X1_countSpoiled_L4_body q0 kx1 (d_X1_countSpoiled_L4 q0 kx1 n) a1 a2 M
def d_X1_countSpoiled (q0 : Nat) (M : Mem) : Ans :=
  (d_X1_countSpoiled_L4 q0 (fun v3 M4 => (some (v3, M4))) fuelN (0 : Int32) (0 : Int32) M)
def d_X2_dropOldest_L9_body (q1 : Nat) (kx1 : Mem → Ans) (kb : Int32 → Mem → Ans) (a2 : Int32) (M : Mem) : Ans :=
  (if (4 : Int32) ≤ a2 then (kx1 M) else (chk a2 4 (stk (M 135 (a2).toNatClampNeg) fun qz2 => (chk (a2 - (1 : Int32)) 4 (bnd (mup M 135 ((a2 - (1 : Int32))).toNatClampNeg (nI qz2)) fun M3 => (bnd (a2 + (1)) fun v4 => (kb v4 M3)))))))
def d_X2_dropOldest_L9 (q1 : Nat) (kx1 : Mem → Ans) : Nat → Int32 → Mem → Ans
  | 0 => fun _ _ => none
  | n + 1 => fun a2 M => d_X2_dropOldest_L9_body q1 kx1 (d_X2_dropOldest_L9 q1 kx1 n) a2 M
def d_X2_dropOldest (M : Mem) : Ans :=
  (chk (0 : Int32) 4 (stk (M 135 ((0 : Int32)).toNatClampNeg) fun qz1 => (d_X2_dropOldest_L9 qz1 (fun M5 => (chk (3 : Int32) 4 (bnd (mup M5 135 ((3 : Int32)).toNatClampNeg (nI qz1)) fun M6 => (bnd (mup M6 134 1 ((M6 134 1) - (1 : Int32))) fun M7 => (some (0, M7)))))) fuelN (1 : Int32) M)))
def d_X4_copyFrom (q0 : Nat) (q1 : Nat) (M : Mem) : Ans :=
  (bnd (mup M (sI q0 1) 0 (M (sI q1 1) 0)) fun M1 => (bnd (mset M1 (sI q0 2) (va_cpy (M1 (sI q1 2)) (M1 (sI q0 2)) 0 0 8)) fun M2 => (bnd (mset M2 (sI q0 3) (va_cpy (M2 (sI q1 3)) (M2 (sI q0 3)) 0 0 8)) fun M3 => (bnd (mset M3 (sI q0 4) (va_cpy (M3 (sI q1 4)) (M3 (sI q0 4)) 0 0 8)) fun M4 => (bnd (mset M4 (sI q0 5) (va_cpy (M4 (sI q1 5)) (M4 (sI q0 5)) 0 0 8)) fun M5 => (some (0, M5)))))))
def d_X7_copyFrom (q0 : Nat) (q1 : Nat) (M : Mem) : Ans :=
  (bnd (mup M (sI q0 12) 0 (M (sI q1 12) 0)) fun M1 => (bnd (mset M1 (sI q0 13) (va_cpy (M1 (sI q1 13)) (M1 (sI q0 13)) 0 0 8)) fun M2 => (bnd (mset M2 (sI q0 14) (va_cpy (M2 (sI q1 14)) (M2 (sI q0 14)) 0 0 8)) fun M3 => (bnd (mset M3 (sI q0 15) (va_cpy (M3 (sI q1 15)) (M3 (sI q0 15)) 0 0 8)) fun M4 => (some (0, M4))))))
def d_X5_copyFrom (q0 : Nat) (q1 : Nat) (M : Mem) : Ans :=
  (bnd (mup M (sI q0 0) 0 (M (sI q1 0) 0)) fun M1 => (bnd (mup M1 (sI q0 0) 1 (M1 (sI q1 0) 1)) fun M2 => (bnd (mup M2 (sI q0 0) 2 (M2 (sI q1 0) 2)) fun M3 => (bnd (mup M3 (sI q0 0) 3 (M3 (sI q1 0) 3)) fun M4 => (bnd (mup M4 (sI q0 0) 4 (M4 (sI q1 0) 4)) fun M5 => (bnd (mup M5 (sI q0 0) 5 (M5 (sI q1 0) 5)) fun M6 => (bnd (mup M6 (sI q0 0) 6 (M6 (sI q1 0) 6)) fun M7 => (bd (d_X4_copyFrom q0 q1 M7) fun r9 M8 => (bd (d_X0_copyFrom q0 q1 M8) fun r11 M10 => (bd (d_X7_copyFrom q0 q1 M10) fun r13 M12 => (some (0, M12))))))))))))
def d_X2_push_B12 (q1 : Nat) (M : Mem) : Ans :=
  (if (M 134 1) < 0 then (some (0, M)) else (if (M 134 1) < (4 : Int32) then (chk (M 134 1) 4 (stk (M 135 ((M 134 1)).toNatClampNeg) fun qz1 => (bd (d_X5_copyFrom qz1 q1 M) fun r3 M2 => (bnd (mup M2 134 1 ((M2 134 1) + (1 : Int32))) fun M4 => (some (0, M4)))))) else (some (0, M))))
def d_X2_push (q1 : Nat) (M : Mem) : Ans :=
  (if (M 134 1) < (4 : Int32) then (d_X2_push_B12 q1 M) else (bd (d_X2_dropOldest M) fun r6 M5 => (d_X2_push_B12 q1 M5)))
def d_X2_popInto (q1 : Nat) (M : Mem) : Ans :=
  (if (M 134 1) ≤ 0 then (some (0, M)) else (if (M 134 1) ≤ (4 : Int32) then (bnd (mup M 134 1 ((M 134 1) - (1 : Int32))) fun M1 => (chk (M1 134 1) 4 (stk (M1 135 ((M1 134 1)).toNatClampNeg) fun qz2 => (bd (d_X5_copyFrom q1 qz2 M1) fun r4 M3 => (some (0, M3)))))) else (some (0, M))))
def d_X3_forecastWithout_L20_body (q1 : Nat) (kx1 : Mem → Ans) (kb : Int32 → Mem → Ans) (a3 : Int32) (M : Mem) : Ans :=
  (if (60 : Int32) ≤ a3 then (kx1 M) else (chk a3 60 (bnd (mup M 133 (a3).toNatClampNeg (vp_nar .boolean (0 : Int32))) fun M5 => (bnd (a3 + (1)) fun v6 => (kb v6 M5)))))
def d_X3_forecastWithout_L20 (q1 : Nat) (kx1 : Mem → Ans) : Nat → Int32 → Mem → Ans
  | 0 => fun _ _ => none
  | n + 1 => fun a3 M => d_X3_forecastWithout_L20_body q1 kx1 (d_X3_forecastWithout_L20 q1 kx1 n) a3 M
def d_X3_forecastWithout_B100 (q1 : Nat) (kx1 : Mem → Ans) (kb : Int32 → Mem → Ans) (a3 : Int32) (M : Mem) : Ans :=
  (bnd (a3 + (1)) fun v9 => (kb v9 M))
def d_X3_forecastWithout_B99 (q1 : Nat) (kx1 : Mem → Ans) (kb : Int32 → Mem → Ans) (a3 : Int32) (s0 : Int32) (s1 : Int32) (M : Mem) : Ans :=
  (chk s1 60 (bnd (mup M 133 (s1).toNatClampNeg (vp_nar .boolean s0)) fun M10 => (d_X3_forecastWithout_B100 q1 kx1 kb a3 M10)))
def d_X3_forecastWithout_L41_body (q1 : Nat) (kx1 : Mem → Ans) (kb : Int32 → Mem → Ans) (a3 : Int32) (M : Mem) : Ans :=
  (if (M (cI 1 0) 6) ≤ a3 then (kx1 M) else (chk a3 61 (bnd (M (cI 1 1) (a3).toNatClampNeg) fun v8 => (if v8 < 0 then (d_X3_forecastWithout_B100 q1 kx1 kb a3 M) else (if (60 : Int32) ≤ v8 then (d_X3_forecastWithout_B100 q1 kx1 kb a3 M) else (chk a3 61 (if (M (cI 1 2) (a3).toNatClampNeg) = (3 : Int32) then (d_X3_forecastWithout_B99 q1 kx1 kb a3 (1 : Int32) v8 M) else (d_X3_forecastWithout_B99 q1 kx1 kb a3 (0 : Int32) v8 M))))))))
def d_X3_forecastWithout_L41 (q1 : Nat) (kx1 : Mem → Ans) : Nat → Int32 → Mem → Ans
  | 0 => fun _ _ => none
  | n + 1 => fun a3 M => d_X3_forecastWithout_L41_body q1 kx1 (d_X3_forecastWithout_L41 q1 kx1 n) a3 M
def d_X3_forecastWithout (q1 : Nat) (p2 : Int32) (M : Mem) : Ans :=
  (bd (d_X1_beginWith 1 q1 p2 (-1 : Int32) (-1 : Int32) M) fun r2 M1 => (bd (d_X1_passToEnd 1 M1) fun r4 M3 => (d_X3_forecastWithout_L20 q1 (fun M7 => (d_X3_forecastWithout_L41 q1 (fun M11 => (some (0, M11))) fuelN (0 : Int32) M7)) fuelN (0 : Int32) M3)))
def d_X4_lastBusy (q0 : Nat) (p1 : Int32) (p2 : Int32) (M : Mem) : Ans :=
  (bd (d_X4_has q0 p1 M) fun r2 M1 => (if r2 = 0 then (some (p2, M1)) else (chk p1 8 (chk p1 8 (some ((((p2 + (M1 (sI q0 4) (p1).toNatClampNeg)) - (1 : Int32)) + (M1 (sI q0 5) (p1).toNatClampNeg)), M1))))))
def d_X5_firstMeeting_B83 (q0 : Nat) (kx1 : Mem → Ans) (kb : Int32 → Mem → Ans) (a1 : Int32) (a2 : Int32) (a3 : Int32) (a4 : Int32) (a5 : Int32) (M : Mem) : Ans :=
  (bnd (a5 + (1)) fun v1 => (kb v1 M))
def d_X5_firstMeeting_L3_body (q0 : Nat) (a1 : Int32) (a2 : Int32) (a3 : Int32) (a4 : Int32) (kx1 : Mem → Ans) (kb : Int32 → Mem → Ans) (a5 : Int32) (M : Mem) : Ans :=
  (if (M (sI q0 6) 0) ≤ a5 then (kx1 M) else (if a5 = a4 then (d_X5_firstMeeting_B83 q0 kx1 kb a1 a2 a3 a4 a5 M) else (bd (d_X0_keepsBusy q0 a5 a1 M) fun r3 M2 => (if r3 = 0 then (d_X5_firstMeeting_B83 q0 kx1 kb a1 a2 a3 a4 a5 M2) else (chk a5 60 (if a3 < (M2 (sI q0 9) (a5).toNatClampNeg) then (d_X5_firstMeeting_B83 q0 kx1 kb a1 a2 a3 a4 a5 M2) else (chk a5 60 (chk a5 60 (bd (d_X4_lastBusy q0 (M2 (sI q0 8) (a5).toNatClampNeg) (M2 (sI q0 9) (a5).toNatClampNeg) M2) fun r5 M4 => (if r5 < a2 then (d_X5_firstMeeting_B83 q0 kx1 kb a1 a2 a3 a4 a5 M4) else (some (a5, M4))))))))))))
def d_X5_firstMeeting_L3 (q0 : Nat) (a1 : Int32) (a2 : Int32) (a3 : Int32) (a4 : Int32) (kx1 : Mem → Ans) : Nat → Int32 → Mem → Ans
  | 0 => fun _ _ => none
  | n + 1 => fun a5 M => d_X5_firstMeeting_L3_body q0 a1 a2 a3 a4 kx1 (d_X5_firstMeeting_L3 q0 a1 a2 a3 a4 kx1 n) a5 M
def d_X5_firstMeeting (q0 : Nat) (p1 : Int32) (p2 : Int32) (p3 : Int32) (p4 : Int32) (M : Mem) : Ans :=
  (d_X5_firstMeeting_L3 q0 p1 p2 p3 p4 (fun M6 => (some ((-1 : Int32), M6))) fuelN (0 : Int32) M)
def d_X3_wasDoomed (p1 : Int32) (M : Mem) : Ans :=
  (if p1 < 0 then (some ((0 : Int32), M)) else (if (60 : Int32) ≤ p1 then (some ((0 : Int32), M)) else (chk p1 60 (if (M 133 (p1).toNatClampNeg) = 0 then (some ((0 : Int32), M)) else (some ((1 : Int32), M))))))
def d_X3_reasonByOthers_B69 (kx1 : Mem → Ans) (kb : Int32 → Mem → Ans) (a1 : Int32) (a2 : Int32) (M : Mem) : Ans :=
  (bnd (a2 + (1)) fun v2 => (kb v2 M))
def d_X3_reasonByOthers_L2_body (a1 : Int32) (kx1 : Mem → Ans) (kb : Int32 → Mem → Ans) (a2 : Int32) (M : Mem) : Ans :=
  (if (M (cI 1 0) 6) ≤ a2 then (kx1 M) else (chk a2 61 (bnd (M (cI 1 1) (a2).toNatClampNeg) fun v1 => (if v1 = a1 then (d_X3_reasonByOthers_B69 kx1 kb a1 a2 M) else (chk a2 61 (if (M (cI 1 2) (a2).toNatClampNeg) = (3 : Int32) then (bd (d_X3_wasDoomed v1 M) fun r4 M3 => (if r4 = 0 then (bnd (mup M3 132 2 v1) fun M5 => (chk a2 61 (bnd (mup M5 132 3 (M5 (cI 1 4) (a2).toNatClampNeg)) fun M6 => (some ((3 : Int32), M6))))) else (d_X3_reasonByOthers_B69 kx1 kb a1 a2 M3))) else (d_X3_reasonByOthers_B69 kx1 kb a1 a2 M)))))))
def d_X3_reasonByOthers_L2 (a1 : Int32) (kx1 : Mem → Ans) : Nat → Int32 → Mem → Ans
  | 0 => fun _ _ => none
  | n + 1 => fun a2 M => d_X3_reasonByOthers_L2_body a1 kx1 (d_X3_reasonByOthers_L2 a1 kx1 n) a2 M
def d_X3_reasonByOthers (p1 : Int32) (M : Mem) : Ans :=
  (d_X3_reasonByOthers_L2 p1 (fun M7 => (some ((0 : Int32), M7))) fuelN (0 : Int32) M)
def d_X3_reasonNow_B111 (q1 : Nat) (a2 : Int32) (M : Mem) : Ans :=
  (bd (d_X3_reasonByOthers a2 M) fun r15 M14 => (some (r15, M14)))
def d_X3_reasonNow (q1 : Nat) (p2 : Int32) (p3 : Int32) (p4 : Int32) (p5 : Int32) (M : Mem) : Ans :=
  (bnd (mup M 132 3 (-5 : Int32)) fun M1 => (bd (d_X4_lastBusy q1 p4 p5 M1) fun r3 M2 => (bd (d_X5_firstMeeting q1 p3 p5 r3 p2 M2) fun r5 M4 => (bnd (mup M4 132 2 r5) fun M6 => (if (M6 132 2) = (-1 : Int32) then (bnd (mup M6 132 2 (-5 : Int32)) fun M7 => (bd (d_X1_beginWith 1 q1 p2 p4 p5 M7) fun r9 M8 => (bd (d_X1_passToEnd 1 M8) fun r11 M10 => (bd (d_X1_rowOf 1 p2 M10) fun r13 M12 => (if r13 = (-1 : Int32) then (d_X3_reasonNow_B111 q1 p2 M12) else (chk r13 61 (if (M12 (cI 1 2) (r13).toNatClampNeg) = (3 : Int32) then (chk r13 61 (bnd (mup M12 132 3 (M12 (cI 1 4) (r13).toNatClampNeg)) fun M16 => (some ((2 : Int32), M16)))) else (d_X3_reasonNow_B111 q1 p2 M12)))))))) else (some ((1 : Int32), M6)))))))
def d_X3_reasonAgainst (q1 : Nat) (p2 : Int32) (p3 : Int32) (p4 : Int32) (p5 : Int32) (M : Mem) : Ans :=
  (bd (d_X3_forecastWithout q1 p2 M) fun r2 M1 => (bd (d_X3_reasonNow q1 p2 p3 p4 p5 M1) fun r4 M3 => (some (r4, M3))))
def d_X3_firstFit_L37_body (q1 : Nat) (a2 : Int32) (a3 : Int32) (a4 : Int32) (a8 : Int32) (kx1 : Mem → Ans) (kb : Int32 → Mem → Ans) (a9 : Int32) (M : Mem) : Ans :=
  (if a8 < a9 then (kx1 M) else (bd (d_X3_reasonNow q1 a2 a3 a4 a9 M) fun r6 M5 => (if r6 = 0 then (some (a9, M5)) else (bnd (a9 + (1)) fun v7 => (kb v7 M5)))))
def d_X3_firstFit_L37 (q1 : Nat) (a2 : Int32) (a3 : Int32) (a4 : Int32) (a8 : Int32) (kx1 : Mem → Ans) : Nat → Int32 → Mem → Ans
  | 0 => fun _ _ => none
  | n + 1 => fun a9 M => d_X3_firstFit_L37_body q1 a2 a3 a4 a8 kx1 (d_X3_firstFit_L37 q1 a2 a3 a4 a8 kx1 n) a9 M
def d_X3_firstFit (q1 : Nat) (p2 : Int32) (p3 : Int32) (p4 : Int32) (p5 : Int32) (p6 : Int32) (M : Mem) : Ans :=
  (bd (d_X3_forecastWithout q1 p2 M) fun r2 M1 => (bnd (imax p5 ((M1 (sI q1 0) 0) + (1 : Int32))) fun v3 => (bnd (imin p6 ((M1 (sI q1 0) 0) + (60 : Int32))) fun v4 => (d_X3_firstFit_L37 q1 p2 p3 p4 v4 (fun M8 => (some ((-5 : Int32), M8))) fuelN v3 M1))))
def d_X4_append (q0 : Nat) (p1 : Int32) (p2 : Int32) (p3 : Int32) (p4 : Int32) (M : Mem) : Ans :=
  (if (M (sI q0 1) 0) < (8 : Int32) then (chk (M (sI q0 1) 0) 8 (bnd (mup M (sI q0 2) ((M (sI q0 1) 0)).toNatClampNeg p1) fun M1 => (chk (M1 (sI q0 1) 0) 8 (bnd (mup M1 (sI q0 3) ((M1 (sI q0 1) 0)).toNatClampNeg p2) fun M2 => (chk (M2 (sI q0 1) 0) 8 (bnd (mup M2 (sI q0 4) ((M2 (sI q0 1) 0)).toNatClampNeg p3) fun M3 => (chk (M3 (sI q0 1) 0) 8 (bnd (mup M3 (sI q0 5) ((M3 (sI q0 1) 0)).toNatClampNeg p4) fun M4 => (bnd (mup M4 (sI q0 1) 0 ((M4 (sI q0 1) 0) + (1 : Int32))) fun M5 => (some (((M5 (sI q0 1) 0) - (1 : Int32)), M5))))))))))) else (some ((-3 : Int32), M)))
def d_X5_canStart (q0 : Nat) (p1 : Int32) (M : Mem) : Ans :=
  (if p1 ≤ (M (sI q0 0) 0) then (some ((0 : Int32), M)) else (if ((M (sI q0 0) 0) + (60 : Int32)) < p1 then (some ((0 : Int32), M)) else (some ((1 : Int32), M))))
def d_X5_isBusyIn (q0 : Nat) (p1 : Int32) (p2 : Int32) (M : Mem) : Ans :=
  (bd (d_X5_firstMeeting q0 p1 p2 p2 (-1 : Int32) M) fun r2 M1 => (if r2 = (-1 : Int32) then (some ((0 : Int32), M1)) else (some ((1 : Int32), M1))))
def d_X5_firstFreeTick_L2_body (q0 : Nat) (a1 : Int32) (kx1 : Mem → Ans) (kb : Int32 → Mem → Ans) (a2 : Int32) (M : Mem) : Ans :=
  (if (89 : Int32) ≤ a2 then (kx1 M) else (bd (d_X5_isBusyIn q0 a1 ((M (sI q0 0) 0) + a2) M) fun r2 M1 => (if r2 = 0 then (some (((M1 (sI q0 0) 0) + a2), M1)) else (bnd (a2 + (1)) fun v3 => (kb v3 M1)))))
def d_X5_firstFreeTick_L2 (q0 : Nat) (a1 : Int32) (kx1 : Mem → Ans) : Nat → Int32 → Mem → Ans
  | 0 => fun _ _ => none
  | n + 1 => fun a2 M => d_X5_firstFreeTick_L2_body q0 a1 kx1 (d_X5_firstFreeTick_L2 q0 a1 kx1 n) a2 M
def d_X5_firstFreeTick (q0 : Nat) (p1 : Int32) (M : Mem) : Ans :=
  (d_X5_firstFreeTick_L2 q0 p1 (fun M4 => (some (((M4 (sI q0 0) 0) + (89 : Int32)), M4))) fuelN (0 : Int32) M)
def d_X6_append (p1 : Int32) (M : Mem) : Ans :=
  (if (M 136 1) < 0 then (some ((M 136 1), M)) else (if (60 : Int32) ≤ (M 136 1) then (some ((M 136 1), M)) else (chk (M 136 1) 60 (bnd (mup M 137 ((M 136 1)).toNatClampNeg (vp_nar .char p1)) fun M1 => (bnd (mup M1 136 1 ((M1 136 1) + (1 : Int32))) fun M2 => (some ((M2 136 1), M2)))))))
def d_X6_current (M : Mem) : Ans :=
  (if (M 136 6) < 0 then (some ((0 : Int32), M)) else (if (M 136 1) ≤ (M 136 6) then (some ((0 : Int32), M)) else (if (60 : Int32) ≤ (M 136 6) then (some ((0 : Int32), M)) else (chk (M 136 6) 60 (nar .char (M 137 ((M 136 6)).toNatClampNeg) (some ((M 137 ((M 136 6)).toNatClampNeg), M)))))))
def d_X6_isDigit (M : Mem) : Ans :=
  (bd (d_X6_current M) fun r2 M1 => (if r2 < (48 : Int32) then (some ((0 : Int32), M1)) else (bd (d_X6_current M1) fun r4 M3 => (if (57 : Int32) < r4 then (some ((0 : Int32), M3)) else (some ((1 : Int32), M3))))))
def d_X6_takeDigit (M : Mem) : Ans :=
  (bd (d_X6_current M) fun r2 M1 => (bnd (r2 - (48 : Int32)) fun v3 => (bnd (mup M1 136 6 ((M1 136 6) + (1 : Int32))) fun M4 => (some (v3, M4)))))
def d_X6_skip (p1 : Int32) (M : Mem) : Ans :=
  (bd (d_X6_current M) fun r2 M1 => (if r2 = p1 then (bnd (mup M1 136 6 ((M1 136 6) + (1 : Int32))) fun M3 => (some ((1 : Int32), M3))) else (some ((0 : Int32), M1))))
def d_X6_takeStart_L13_body (kx1 : Int32 → Mem → Ans) (kb : Int32 → Int32 → Mem → Ans) (a1 : Int32) (a2 : Int32) (M : Mem) : Ans :=
  (if (4 : Int32) ≤ a2 then (kx1 a1 M) else (bd (d_X6_isDigit M) fun r4 M3 => (if r4 = 0 then (kx1 a1 M3) else (bd (d_X6_takeDigit M3) fun r6 M5 => (bnd ((a1 * (10 : Int32)) + r6) fun v7 => (bnd (a2 + (1)) fun v8 => (kb v7 v8 M5)))))))
def d_X6_takeStart_L13 (kx1 : Int32 → Mem → Ans) : Nat → Int32 → Int32 → Mem → Ans
  | 0 => fun _ _ _ => none
  | n + 1 => fun a1 a2 M => d_X6_takeStart_L13_body kx1 (d_X6_takeStart_L13 kx1 n) a1 a2 M
def d_X6_takeStart (M : Mem) : Ans :=
  (bd (d_X6_takeDigit M) fun r2 M1 => (if r2 = 0 then (some ((0 : Int32), M1)) else (d_X6_takeStart_L13 (fun v9 M10 => (some (v9, M10))) fuelN r2 (1 : Int32) M1)))
def d_X6_readEntry (p1 : Int32) (M : Mem) : Ans :=
  (if p1 < 0 then (some ((0 : Int32), M)) else (if (10 : Int32) ≤ p1 then (some ((0 : Int32), M)) else (bd (d_X6_isDigit M) fun r2 M1 => (if r2 = 0 then (some ((0 : Int32), M1)) else (bd (d_X6_takeDigit M1) fun r4 M3 => (chk p1 10 (bnd (mup M3 138 (p1).toNatClampNeg r4) fun M5 => (bd (d_X6_skip (58 : Int32) M5) fun r7 M6 => (if r7 = 0 then (some ((0 : Int32), M6)) else (bd (d_X6_isDigit M6) fun r9 M8 => (if r9 = 0 then (some ((0 : Int32), M8)) else (bd (d_X6_takeDigit M8) fun r11 M10 => (chk p1 10 (bnd (mup M10 139 (p1).toNatClampNeg r11) fun M12 => (bd (d_X6_skip (64 : Int32) M12) fun r14 M13 => (if r14 = 0 then (some ((0 : Int32), M13)) else (bd (d_X6_isDigit M13) fun r16 M15 => (if r16 = 0 then (some ((0 : Int32), M15)) else (bd (d_X6_takeStart M15) fun r18 M17 => (chk p1 10 (bnd (mup M17 140 (p1).toNatClampNeg r18) fun M19 => (some ((1 : Int32), M19)))))))))))))))))))))))
def d_X6_read_L12_body (kx1 : Mem → Ans) (kb : Int32 → Mem → Ans) (a1 : Int32) (M : Mem) : Ans :=
  (if (10 : Int32) ≤ a1 then (kx1 M) else (bd (d_X6_readEntry a1 M) fun r4 M3 => (if r4 = 0 then (some ((M3 136 6), M3)) else (bnd (mup M3 136 2 ((M3 136 2) + (1 : Int32))) fun M5 => (if (M5 136 6) = (M5 136 1) then (some ((-1 : Int32), M5)) else (bd (d_X6_skip (44 : Int32) M5) fun r7 M6 => (if r7 = 0 then (some ((M6 136 6), M6)) else (bnd (a1 + (1)) fun v8 => (kb v8 M6)))))))))
def d_X6_read_L12 (kx1 : Mem → Ans) : Nat → Int32 → Mem → Ans
  | 0 => fun _ _ => none
  | n + 1 => fun a1 M => d_X6_read_L12_body kx1 (d_X6_read_L12 kx1 n) a1 M
def d_X6_read (M : Mem) : Ans :=
  (bnd (mup M 136 2 (0 : Int32)) fun M1 => (bnd (mup M1 136 6 (0 : Int32)) fun M2 => (d_X6_read_L12 (fun M9 => (some ((M9 136 6), M9))) fuelN (0 : Int32) M2)))
def d_X7_has (q0 : Nat) (p1 : Int32) (M : Mem) : Ans :=
  (if p1 < 0 then (some ((0 : Int32), M)) else (if (M (sI q0 12) 0) ≤ p1 then (some ((0 : Int32), M)) else (some ((1 : Int32), M))))
def d_X7_append (q0 : Nat) (p1 : Int32) (p2 : Int32) (p3 : Int32) (M : Mem) : Ans :=
  (if (8 : Int32) ≤ (M (sI q0 12) 0) then (some ((M (sI q0 12) 0), M)) else (chk (M (sI q0 12) 0) 8 (bnd (mup M (sI q0 13) ((M (sI q0 12) 0)).toNatClampNeg p1) fun M1 => (chk (M1 (sI q0 12) 0) 8 (bnd (mup M1 (sI q0 14) ((M1 (sI q0 12) 0)).toNatClampNeg p2) fun M2 => (chk (M2 (sI q0 12) 0) 8 (bnd (mup M2 (sI q0 15) ((M2 (sI q0 12) 0)).toNatClampNeg p3) fun M3 => (bnd (mup M3 (sI q0 12) 0 ((M3 (sI q0 12) 0) + (1 : Int32))) fun M4 => (some ((M4 (sI q0 12) 0), M4))))))))))
def d_X7_takeOut_L13_body (q0 : Nat) (kx1 : Mem → Ans) (kb : Int32 → Mem → Ans) (a2 : Int32) (M : Mem) : Ans :=
  (if (M (sI q0 12) 0) ≤ a2 then (kx1 M) else (chk a2 8 (chk (a2 - (1 : Int32)) 8 (bnd (mup M (sI q0 13) ((a2 - (1 : Int32))).toNatClampNeg (M (sI q0 13) (a2).toNatClampNeg)) fun M4 => (chk a2 8 (chk (a2 - (1 : Int32)) 8 (bnd (mup M4 (sI q0 14) ((a2 - (1 : Int32))).toNatClampNeg (M4 (sI q0 14) (a2).toNatClampNeg)) fun M5 => (chk a2 8 (chk (a2 - (1 : Int32)) 8 (bnd (mup M5 (sI q0 15) ((a2 - (1 : Int32))).toNatClampNeg (M5 (sI q0 15) (a2).toNatClampNeg)) fun M6 => (bnd (a2 + (1)) fun v7 => (kb v7 M6))))))))))))
def d_X7_takeOut_L13 (q0 : Nat) (kx1 : Mem → Ans) : Nat → Int32 → Mem → Ans
  | 0 => fun _ _ => none
  | n + 1 => fun a2 M => d_X7_takeOut_L13_body q0 kx1 (d_X7_takeOut_L13 q0 kx1 n) a2 M
def d_X7_takeOut (q0 : Nat) (p1 : Int32) (M : Mem) : Ans :=
  (bd (d_X7_has q0 p1 M) fun r2 M1 => (if r2 = 0 then (some (0, M1)) else (bnd (p1 + (1 : Int32)) fun v3 => (d_X7_takeOut_L13 q0 (fun M8 => (bnd (mup M8 (sI q0 12) 0 ((M8 (sI q0 12) 0) - (1 : Int32))) fun M9 => (some (0, M9)))) fuelN v3 M1))))
def d_X7_dropUntil_B34 (q0 : Nat) (kx1 : Int32 → Mem → Ans) (kb : Int32 → Int32 → Mem → Ans) (a1 : Int32) (a2 : Int32) (a3 : Int32) (M : Mem) : Ans :=
  (bnd (a3 + (-1)) fun v2 => (kb a2 v2 M))
def d_X7_dropUntil_L9_body (q0 : Nat) (a1 : Int32) (kx1 : Int32 → Mem → Ans) (kb : Int32 → Int32 → Mem → Ans) (a2 : Int32) (a3 : Int32) (M : Mem) : Ans :=
  (if a3 < 0 then (kx1 a2 M) else (chk a3 8 (if a1 < ((M (sI q0 15) (a3).toNatClampNeg) + (20 : Int32)) then (d_X7_dropUntil_B34 q0 kx1 kb a1 a2 a3 M) else (bd (d_X7_takeOut q0 a3 M) fun r4 M3 => (bnd (a2 + (1)) fun v5 => (d_X7_dropUntil_B34 q0 kx1 kb a1 v5 a3 M3))))))
def d_X7_dropUntil_L9 (q0 : Nat) (a1 : Int32) (kx1 : Int32 → Mem → Ans) : Nat → Int32 → Int32 → Mem → Ans
  | 0 => fun _ _ _ => none
  | n + 1 => fun a2 a3 M => d_X7_dropUntil_L9_body q0 a1 kx1 (d_X7_dropUntil_L9 q0 a1 kx1 n) a2 a3 M
def d_X7_dropUntil (q0 : Nat) (p1 : Int32) (M : Mem) : Ans :=
  (bnd ((M (sI q0 12) 0) - (1 : Int32)) fun v1 => (d_X7_dropUntil_L9 q0 p1 (fun v6 M7 => (some (v6, M7))) fuelN (0 : Int32) v1 M))
def d_X8_within (p0 : Int32) (p1 : Int32) (p2 : Int32) (M : Mem) : Ans :=
  (if p0 < p1 then (some ((0 : Int32), M)) else (if p2 < p0 then (some ((0 : Int32), M)) else (some ((1 : Int32), M))))
def d_X8_addRecipe_B48 (a1 : Int32) (a2 : Int32) (a3 : Int32) (a4 : Int32) (s0 : Int32) (M : Mem) : Ans :=
  (if s0 = 0 then (some ((-2 : Int32), M)) else (if (M (sI 0 1) 0) < (8 : Int32) then (bd (d_X2_push 0 M) fun r4 M3 => (bd (d_X4_append 0 a1 a2 a3 a4 M3) fun r6 M5 => (some (r6, M5)))) else (some ((-3 : Int32), M))))
def d_X8_addRecipe_B47 (a1 : Int32) (a2 : Int32) (a3 : Int32) (a4 : Int32) (M : Mem) : Ans :=
  (d_X8_addRecipe_B48 a1 a2 a3 a4 (0 : Int32) M)
def d_X8_addRecipe (p1 : Int32) (p2 : Int32) (p3 : Int32) (p4 : Int32) (M : Mem) : Ans :=
  (bd (d_X8_within p1 (0 : Int32) (3000 : Int32) M) fun r2 M1 => (if r2 = 0 then (d_X8_addRecipe_B47 p1 p2 p3 p4 M1) else (bd (d_X8_within p2 (1 : Int32) (500 : Int32) M1) fun r8 M7 => (if r8 = 0 then (d_X8_addRecipe_B47 p1 p2 p3 p4 M7) else (bd (d_X8_within p3 (1 : Int32) (20 : Int32) M7) fun r10 M9 => (if r10 = 0 then (d_X8_addRecipe_B47 p1 p2 p3 p4 M9) else (bd (d_X8_within p4 (0 : Int32) (9 : Int32) M9) fun r12 M11 => (if r12 = 0 then (d_X8_addRecipe_B47 p1 p2 p3 p4 M11) else (d_X8_addRecipe_B48 p1 p2 p3 p4 (1 : Int32) M11)))))))))
def d_X8_forecastToEnd (M : Mem) : Ans :=
  (bd (d_X1_begin 0 0 M) fun r2 M1 => (bd (d_X1_passToEnd 0 M1) fun r4 M3 => (some (0, M3))))
def d_X8_countDoomed (M : Mem) : Ans :=
  (bd (d_X8_forecastToEnd M) fun r2 M1 => (bd (d_X1_countSpoiled 0 M1) fun r4 M3 => (some (r4, M3))))
def d_X8_setHeat (p1 : Int32) (M : Mem) : Ans :=
  (bd (d_X8_within p1 (0 : Int32) (300 : Int32) M) fun r2 M1 => (if r2 = 0 then (some ((-2 : Int32), M1)) else (if p1 = (M1 (sI 0 0) 3) then (some ((-5 : Int32), M1)) else (bd (d_X2_push 0 M1) fun r4 M3 => (bnd (mup M3 (sI 0 0) 3 p1) fun M5 => (bd (d_X8_countDoomed M5) fun r7 M6 => (some (r7, M6))))))))
def d_X8_setMost (p1 : Int32) (M : Mem) : Ans :=
  (bd (d_X8_within p1 (100 : Int32) (3000 : Int32) M) fun r2 M1 => (if r2 = 0 then (some ((-2 : Int32), M1)) else (if p1 = (M1 (sI 0 0) 2) then (some ((-5 : Int32), M1)) else (bd (d_X2_push 0 M1) fun r4 M3 => (bnd (mup M3 (sI 0 0) 2 p1) fun M5 => (bnd (mup M5 (sI 0 0) 1 (imin (M5 (sI 0 0) 1) p1)) fun M6 => (some ((M6 (sI 0 0) 1), M6))))))))
def d_X8_fall (p1 : Int32) (M : Mem) : Ans :=
  (bd (d_X8_within p1 (1 : Int32) (3000 : Int32) M) fun r2 M1 => (if r2 = 0 then (some ((-2 : Int32), M1)) else (if (M1 (sI 0 0) 1) = 0 then (some ((-5 : Int32), M1)) else (bd (d_X2_push 0 M1) fun r4 M3 => (bnd (mup M3 (sI 0 0) 1 (imax (0 : Int32) ((M3 (sI 0 0) 1) - p1))) fun M5 => (bd (d_X8_countDoomed M5) fun r7 M6 => (some (r7, M6))))))))
def d_X8_isRobot (p0 : Int32) (M : Mem) : Ans :=
  (bd (d_X8_within p0 (0 : Int32) (5 : Int32) M) fun r2 M1 => (nar .boolean r2 (some (r2, M1))))
def d_X8_errorOf (p0 : Int32) (M : Mem) : Ans :=
  (if p0 = (0) then (some ((0 : Int32), M)) else (if p0 = (1) then (some ((-6 : Int32), M)) else (some ((-7 : Int32), M))))
def d_X8_errorOfBooking (p1 : Int32) (p2 : Int32) (p3 : Int32) (M : Mem) : Ans :=
  (bd (d_X8_isRobot p1 M) fun r2 M1 => (if r2 = 0 then (some ((-1 : Int32), M1)) else (bd (d_X4_has 0 p2 M1) fun r4 M3 => (if r4 = 0 then (some ((-1 : Int32), M3)) else (bd (d_X5_canStart 0 p3 M3) fun r6 M5 => (if r6 = 0 then (some ((-2 : Int32), M5)) else (if (M5 (sI 0 6) 0) < (60 : Int32) then (bd (d_X3_reasonAgainst 0 (M5 (sI 0 6) 0) p1 p2 p3 M5) fun r8 M7 => (bd (d_X8_errorOf r8 M7) fun r10 M9 => (some (r10, M9)))) else (some ((-3 : Int32), M5)))))))))
def d_X8_book (p1 : Int32) (p2 : Int32) (p3 : Int32) (M : Mem) : Ans :=
  (bd (d_X8_errorOfBooking p1 p2 p3 M) fun r2 M1 => (if r2 = 0 then (bd (d_X2_push 0 M1) fun r4 M3 => (bd (d_X0_append 0 p1 p2 p3 M3) fun r6 M5 => (some (r6, M5)))) else (some (r2, M1))))
def d_X8_tryWishes_B157 (kx1 : Mem → Ans) (kb : Int32 → Int32 → Mem → Ans) (a2 : Int32) (a3 : Int32) (a4 : Int32) (M : Mem) : Ans :=
  (bnd (a4 + (1)) fun v10 => (kb a3 v10 M))
def d_X8_tryWishes_B120 (kx1 : Mem → Ans) (kb : Int32 → Int32 → Mem → Ans) (a2 : Int32) (a3 : Int32) (a4 : Int32) (a5 : Int32) (a6 : Int32) (s0 : Int32) (M : Mem) : Ans :=
  (if s0 = (-5 : Int32) then (bnd (a3 + (1)) fun v11 => (d_X8_tryWishes_B157 kx1 kb a2 v11 a4 M)) else (bd (d_X7_takeOut 0 a3 M) fun r7 M6 => (bd (d_X0_append 0 a5 a6 s0 M6) fun r9 M8 => (d_X8_tryWishes_B157 kx1 kb a2 a3 a4 M8))))
def d_X8_tryWishes_B76 (kx1 : Mem → Ans) (kb : Int32 → Int32 → Mem → Ans) (a2 : Int32) (a3 : Int32) (a4 : Int32) (a5 : Int32) (a6 : Int32) (a7 : Int32) (s0 : Int32) (M : Mem) : Ans :=
  (if s0 = 0 then (d_X8_tryWishes_B120 kx1 kb a2 a3 a4 a5 a6 (-5 : Int32) M) else (bd (d_X3_firstFit 0 (M (sI 0 6) 0) a5 a6 a7 (a7 + (20 : Int32)) M) fun r13 M12 => (d_X8_tryWishes_B120 kx1 kb a2 a3 a4 a5 a6 r13 M12)))
def d_X8_tryWishes_L18_body (a2 : Int32) (kx1 : Mem → Ans) (kb : Int32 → Int32 → Mem → Ans) (a3 : Int32) (a4 : Int32) (M : Mem) : Ans :=
  (if a2 ≤ a4 then (kx1 M) else (bd (d_X7_has 0 a3 M) fun r2 M1 => (if r2 = 0 then (kx1 M1) else (chk a3 8 (bnd (M1 (sI 0 13) (a3).toNatClampNeg) fun v3 => (chk a3 8 (bnd (M1 (sI 0 14) (a3).toNatClampNeg) fun v4 => (chk a3 8 (bnd (M1 (sI 0 15) (a3).toNatClampNeg) fun v5 => (if (60 : Int32) ≤ (M1 (sI 0 6) 0) then (d_X8_tryWishes_B76 kx1 kb a2 a3 a4 v3 v4 v5 (0 : Int32) M1) else (d_X8_tryWishes_B76 kx1 kb a2 a3 a4 v3 v4 v5 (1 : Int32) M1)))))))))))
def d_X8_tryWishes_L18 (a2 : Int32) (kx1 : Mem → Ans) : Nat → Int32 → Int32 → Mem → Ans
  | 0 => fun _ _ _ => none
  | n + 1 => fun a3 a4 M => d_X8_tryWishes_L18_body a2 kx1 (d_X8_tryWishes_L18 a2 kx1 n) a3 a4 M
def d_X8_tryWishes_B163 (a2 : Int32) (M : Mem) : Ans :=
  (bnd (a2 - (M (sI 0 12) 0)) fun v15 => (bnd (mup M (sI 0 0) 4 ((M (sI 0 0) 4) + v15)) fun M16 => (some (v15, M16))))
def d_X8_tryWishes (M : Mem) : Ans :=
  (d_X8_tryWishes_L18 (M (sI 0 12) 0) (fun M14 => (d_X8_tryWishes_B163 (M (sI 0 12) 0) M14)) fuelN (0 : Int32) (0 : Int32) M)
def d_X8_cancel (p1 : Int32) (M : Mem) : Ans :=
  (bd (d_X0_has 0 p1 M) fun r2 M1 => (if r2 = 0 then (some ((-1 : Int32), M1)) else (bd (d_X0_isOpen 0 p1 M1) fun r4 M3 => (if r4 = 0 then (some ((-4 : Int32), M3)) else (bd (d_X2_push 0 M3) fun r6 M5 => (chk p1 60 (bnd (mup M5 (sI 0 10) (p1).toNatClampNeg (4 : Int32)) fun M7 => (bd (d_X8_tryWishes M7) fun r9 M8 => (some (r9, M8))))))))))
def d_X8_move (p1 : Int32) (p2 : Int32) (M : Mem) : Ans :=
  (bd (d_X0_has 0 p1 M) fun r2 M1 => (if r2 = 0 then (some ((-1 : Int32), M1)) else (chk p1 60 (if (M1 (sI 0 10) (p1).toNatClampNeg) = 0 then (bd (d_X5_canStart 0 p2 M1) fun r4 M3 => (if r4 = 0 then (some ((-2 : Int32), M3)) else (chk p1 60 (bnd (M3 (sI 0 7) (p1).toNatClampNeg) fun v5 => (chk p1 60 (bnd (M3 (sI 0 8) (p1).toNatClampNeg) fun v6 => (bd (d_X3_reasonAgainst 0 p1 v5 v6 p2 M3) fun r8 M7 => (bd (d_X8_errorOf r8 M7) fun r10 M9 => (if r10 = 0 then (chk p1 60 (bnd (M9 (sI 0 9) (p1).toNatClampNeg) fun v11 => (if v11 = p2 then (some ((-5 : Int32), M9)) else (bd (d_X2_push 0 M9) fun r13 M12 => (chk p1 60 (bnd (mup M12 (sI 0 9) (p1).toNatClampNeg p2) fun M14 => (some (v11, M14)))))))) else (some (r10, M9))))))))))) else (some ((-4 : Int32), M1))))))
def d_X8_wasRepaired (p1 : Int32) (M : Mem) : Ans :=
  (if p1 < 0 then (some ((1 : Int32), M)) else (if (60 : Int32) ≤ p1 then (some ((1 : Int32), M)) else (chk p1 60 (if (M 142 (p1).toNatClampNeg) = 0 then (some ((0 : Int32), M)) else (some ((1 : Int32), M))))))
def d_X8_firstToRepair_B64 (kx1 : Mem → Ans) (kb : Int32 → Mem → Ans) (a1 : Int32) (M : Mem) : Ans :=
  (bnd (a1 + (1)) fun v4 => (kb v4 M))
def d_X8_firstToRepair_L6_body (kx1 : Mem → Ans) (kb : Int32 → Mem → Ans) (a1 : Int32) (M : Mem) : Ans :=
  (if (M (cI 0 0) 6) ≤ a1 then (kx1 M) else (chk a1 61 (bnd (M (cI 0 1) (a1).toNatClampNeg) fun v3 => (chk a1 61 (if (M (cI 0 2) (a1).toNatClampNeg) = (3 : Int32) then (bd (d_X0_stateOf 0 v3 M) fun r6 M5 => (if r6 = 0 then (bd (d_X8_wasRepaired v3 M5) fun r8 M7 => (if r8 = 0 then (some (v3, M7)) else (d_X8_firstToRepair_B64 kx1 kb a1 M7))) else (d_X8_firstToRepair_B64 kx1 kb a1 M5))) else (d_X8_firstToRepair_B64 kx1 kb a1 M))))))
def d_X8_firstToRepair_L6 (kx1 : Mem → Ans) : Nat → Int32 → Mem → Ans
  | 0 => fun _ _ => none
  | n + 1 => fun a1 M => d_X8_firstToRepair_L6_body kx1 (d_X8_firstToRepair_L6 kx1 n) a1 M
def d_X8_firstToRepair (M : Mem) : Ans :=
  (bd (d_X8_forecastToEnd M) fun r2 M1 => (d_X8_firstToRepair_L6 (fun M9 => (some ((-1 : Int32), M9))) fuelN (0 : Int32) M1))
def d_X8_moveLaterOrCancel (p1 : Int32) (M : Mem) : Ans :=
  (bd (d_X0_has 0 p1 M) fun r2 M1 => (if r2 = 0 then (some ((0 : Int32), M1)) else (chk p1 60 (bnd (mup M1 142 (p1).toNatClampNeg (vp_nar .boolean (1 : Int32))) fun M3 => (chk p1 60 (chk p1 60 (chk p1 60 (chk p1 60 (bd (d_X3_firstFit 0 p1 (M3 (sI 0 7) (p1).toNatClampNeg) (M3 (sI 0 8) (p1).toNatClampNeg) ((M3 (sI 0 9) (p1).toNatClampNeg) + (1 : Int32)) ((M3 (sI 0 9) (p1).toNatClampNeg) + (60 : Int32)) M3) fun r5 M4 => (if r5 = (-5 : Int32) then (chk p1 60 (bnd (mup M4 (sI 0 10) (p1).toNatClampNeg (4 : Int32)) fun M7 => (some ((0 : Int32), M7)))) else (chk p1 60 (bnd (mup M4 (sI 0 9) (p1).toNatClampNeg r5) fun M6 => (some ((1 : Int32), M6))))))))))))))
def d_X8_repair_L2_body (kx1 : Mem → Ans) (kb : Int32 → Mem → Ans) (a1 : Int32) (M : Mem) : Ans :=
  (if (60 : Int32) ≤ a1 then (kx1 M) else (chk a1 60 (bnd (mup M 142 (a1).toNatClampNeg (vp_nar .boolean (0 : Int32))) fun M1 => (bnd (a1 + (1)) fun v2 => (kb v2 M1)))))
def d_X8_repair_L2 (kx1 : Mem → Ans) : Nat → Int32 → Mem → Ans
  | 0 => fun _ _ => none
  | n + 1 => fun a1 M => d_X8_repair_L2_body kx1 (d_X8_repair_L2 kx1 n) a1 M
def d_X8_repair_B71 (kx1 : Int32 → Mem → Ans) (kb : Int32 → Int32 → Int32 → Mem → Ans) (a2 : Int32) (a3 : Int32) (M : Mem) : Ans :=
  (bd (d_X8_firstToRepair M) fun r11 M10 => (bnd (a3 + (1)) fun v12 => (kb r11 a2 v12 M10)))
def d_X8_repair_L49_body (kx1 : Int32 → Mem → Ans) (kb : Int32 → Int32 → Int32 → Mem → Ans) (a1 : Int32) (a2 : Int32) (a3 : Int32) (M : Mem) : Ans :=
  (if (60 : Int32) ≤ a3 then (kx1 a2 M) else (if a1 = (-1 : Int32) then (kx1 a2 M) else (bd (d_X8_moveLaterOrCancel a1 M) fun r9 M8 => (if r9 = 0 then (d_X8_repair_B71 kx1 kb a2 a3 M8) else (bnd (a2 + (1)) fun v13 => (d_X8_repair_B71 kx1 kb v13 a3 M8))))))
def d_X8_repair_L49 (kx1 : Int32 → Mem → Ans) : Nat → Int32 → Int32 → Int32 → Mem → Ans
  | 0 => fun _ _ _ _ => none
  | n + 1 => fun a1 a2 a3 M => d_X8_repair_L49_body kx1 (d_X8_repair_L49 kx1 n) a1 a2 a3 M
def d_X8_repair (M : Mem) : Ans :=
  (d_X8_repair_L2 (fun M3 => (bd (d_X8_firstToRepair M3) fun r5 M4 => (if r5 = (-1 : Int32) then (some ((-5 : Int32), M4)) else (bd (d_X2_push 0 M4) fun r7 M6 => (d_X8_repair_L49 (fun v14 M15 => (some (v14, M15))) fuelN r5 (0 : Int32) (0 : Int32) M6))))) fuelN (0 : Int32) M)
def d_X8_wish_B128 (a1 : Int32) (a2 : Int32) (a3 : Int32) (M : Mem) : Ans :=
  (if (M (sI 0 12) 0) < (8 : Int32) then (bd (d_X2_push 0 M) fun r10 M9 => (bd (d_X7_append 0 a1 a2 a3 M9) fun r12 M11 => (some (((1000 : Int32) + r12), M11)))) else (some ((-3 : Int32), M)))
def d_X8_wish (p1 : Int32) (p2 : Int32) (p3 : Int32) (M : Mem) : Ans :=
  (bd (d_X8_isRobot p1 M) fun r2 M1 => (if r2 = 0 then (some ((-1 : Int32), M1)) else (bd (d_X4_has 0 p2 M1) fun r4 M3 => (if r4 = 0 then (some ((-1 : Int32), M3)) else (bd (d_X5_canStart 0 p3 M3) fun r6 M5 => (if r6 = 0 then (some ((-2 : Int32), M5)) else (bd (d_X3_firstFit 0 (M5 (sI 0 6) 0) p1 p2 p3 (p3 + (20 : Int32)) M5) fun r8 M7 => (if r8 = (-5 : Int32) then (d_X8_wish_B128 p1 p2 p3 M7) else (if (60 : Int32) ≤ (M7 (sI 0 6) 0) then (d_X8_wish_B128 p1 p2 p3 M7) else (bd (d_X2_push 0 M7) fun r14 M13 => (bnd (mup M13 (sI 0 0) 4 ((M13 (sI 0 0) 4) + (1 : Int32))) fun M15 => (bd (d_X0_append 0 p1 p2 r8 M15) fun r17 M16 => (some (r17, M16))))))))))))))
def d_X8_unwish (p1 : Int32) (M : Mem) : Ans :=
  (bd (d_X7_has 0 p1 M) fun r2 M1 => (if r2 = 0 then (some ((-1 : Int32), M1)) else (bd (d_X2_push 0 M1) fun r4 M3 => (chk p1 8 (bnd (M3 (sI 0 14) (p1).toNatClampNeg) fun v5 => (bd (d_X7_takeOut 0 p1 M3) fun r7 M6 => (some (v5, M6))))))))
def d_X8_takeOver_B86 (q1 : Nat) (kx1 : Int32 → Mem → Ans) (kb : Int32 → Int32 → Mem → Ans) (a2 : Int32) (a3 : Int32) (M : Mem) : Ans :=
  (bnd (a3 + (1)) fun v4 => (kb a2 v4 M))
def d_X8_takeOver_B73 (q1 : Nat) (kx1 : Int32 → Mem → Ans) (kb : Int32 → Int32 → Mem → Ans) (a2 : Int32) (a3 : Int32) (M : Mem) : Ans :=
  (chk a3 61 (if (M (cI q1 2) (a3).toNatClampNeg) = (2 : Int32) then (bnd (a2 + (1)) fun v5 => (d_X8_takeOver_B86 q1 kx1 kb v5 a3 M)) else (d_X8_takeOver_B86 q1 kx1 kb a2 a3 M)))
def d_X8_takeOver_L4_body (q1 : Nat) (kx1 : Int32 → Mem → Ans) (kb : Int32 → Int32 → Mem → Ans) (a2 : Int32) (a3 : Int32) (M : Mem) : Ans :=
  (if (M (cI q1 0) 6) ≤ a3 then (kx1 a2 M) else (chk a3 61 (bnd (M (cI q1 1) (a3).toNatClampNeg) fun v1 => (bd (d_X0_has 0 v1 M) fun r3 M2 => (if r3 = 0 then (d_X8_takeOver_B73 q1 kx1 kb a2 a3 M2) else (chk a3 61 (chk v1 60 (bnd (mup M2 (sI 0 10) (v1).toNatClampNeg (M2 (cI q1 2) (a3).toNatClampNeg)) fun M6 => (chk a3 61 (chk v1 60 (bnd (mup M6 (sI 0 11) (v1).toNatClampNeg (M6 (cI q1 3) (a3).toNatClampNeg)) fun M7 => (d_X8_takeOver_B73 q1 kx1 kb a2 a3 M7))))))))))))
def d_X8_takeOver_L4 (q1 : Nat) (kx1 : Int32 → Mem → Ans) : Nat → Int32 → Int32 → Mem → Ans
  | 0 => fun _ _ _ => none
  | n + 1 => fun a2 a3 M => d_X8_takeOver_L4_body q1 kx1 (d_X8_takeOver_L4 q1 kx1 n) a2 a3 M
def d_X8_takeOver (q1 : Nat) (M : Mem) : Ans :=
  (d_X8_takeOver_L4 q1 (fun v8 M9 => (bnd (mup M9 (sI 0 0) 0 (M9 (cI q1 0) 0)) fun M10 => (bnd (mup M10 (sI 0 0) 1 (M10 (cI q1 0) 1)) fun M11 => (bnd (mup M11 (sI 0 0) 6 ((M11 (sI 0 0) 6) + (M11 (cI q1 0) 5))) fun M12 => (bd (d_X7_dropUntil 0 (M12 (sI 0 0) 0) M12) fun r14 M13 => (bnd (mup M13 (sI 0 0) 5 ((M12 (sI 0 0) 5) + r14)) fun M15 => (some (v8, M15)))))))) fuelN (0 : Int32) (0 : Int32) M)
def d_X8_pass (p1 : Int32) (M : Mem) : Ans :=
  (bd (d_X8_within p1 (1 : Int32) (200 : Int32) M) fun r2 M1 => (if r2 = 0 then (some ((-2 : Int32), M1)) else (if ((M1 (sI 0 0) 0) + p1) ≤ (9000 : Int32) then (bd (d_X2_push 0 M1) fun r4 M3 => (bd (d_X1_begin 0 0 M3) fun r6 M5 => (bd (d_X1_passTicks 0 p1 M5) fun r8 M7 => (bd (d_X8_takeOver 0 M7) fun r10 M9 => (some (r10, M9)))))) else (some ((-4 : Int32), M1)))))
def d_X8_type (p1 : Int32) (M : Mem) : Ans :=
  (if (M 136 1) < (60 : Int32) then (bd (d_X6_append p1 M) fun r2 M1 => (some (r2, M1))) else (some ((-3 : Int32), M)))
def d_X8_clearText (M : Mem) : Ans :=
  (bnd (mup M 136 1 (0 : Int32)) fun M1 => (some ((M 136 1), M1)))
def d_X8_bookAll_L31_body (kx1 : Mem → Ans) (kb : Int32 → Mem → Ans) (a2 : Int32) (M : Mem) : Ans :=
  (if (M 136 2) ≤ a2 then (kx1 M) else (chk a2 10 (chk a2 10 (chk a2 10 (bd (d_X8_errorOfBooking (M 138 (a2).toNatClampNeg) (M 139 (a2).toNatClampNeg) (M 140 (a2).toNatClampNeg) M) fun r6 M5 => (if r6 = 0 then (chk a2 10 (chk a2 10 (chk a2 10 (bd (d_X0_append 0 (M5 138 (a2).toNatClampNeg) (M5 139 (a2).toNatClampNeg) (M5 140 (a2).toNatClampNeg) M5) fun r8 M7 => (bnd (a2 + (1)) fun v9 => (kb v9 M7)))))) else (bd (d_X5_copyFrom 0 1 M5) fun r11 M10 => (some (r6, M10)))))))))
def d_X8_bookAll_L31 (kx1 : Mem → Ans) : Nat → Int32 → Mem → Ans
  | 0 => fun _ _ => none
  | n + 1 => fun a2 M => d_X8_bookAll_L31_body kx1 (d_X8_bookAll_L31 kx1 n) a2 M
def d_X8_bookAll (M : Mem) : Ans :=
  (bd (d_X6_read M) fun r2 M1 => (if r2 = (-1 : Int32) then (bd (d_X5_copyFrom 1 0 M1) fun r4 M3 => (d_X8_bookAll_L31 (fun M12 => (bd (d_X2_push 1 M12) fun r14 M13 => (some ((M13 136 2), M13)))) fuelN (0 : Int32) M3)) else (some (((-100 : Int32) - r2), M1))))
def d_X8_undo (M : Mem) : Ans :=
  (if (M 134 1) = 0 then (some ((-5 : Int32), M)) else (bd (d_X2_popInto 0 M) fun r2 M1 => (some ((M1 134 1), M1))))
def d_X8_keep (M : Mem) : Ans :=
  (bd (d_X5_copyFrom 2 0 M) fun r2 M1 => (bnd (mup M1 141 3 (1 : Int32)) fun M3 => (some ((M3 (sI 0 0) 0), M3))))
def d_X8_restore (M : Mem) : Ans :=
  (if (M 141 3) = 0 then (some ((-5 : Int32), M)) else (bd (d_X2_push 0 M) fun r2 M1 => (bd (d_X5_copyFrom 0 2 M1) fun r4 M3 => (some ((M3 (sI 0 0) 0), M3)))))
def d_X8_recipe (p1 : Int32) (p2 : Int32) (M : Mem) : Ans :=
  (bd (d_X4_has 0 p1 M) fun r2 M1 => (if r2 = 0 then (some ((-1 : Int32), M1)) else (if p2 = (0) then (chk p1 8 (some ((M1 (sI 0 2) (p1).toNatClampNeg), M1))) else (if p2 = (1) then (chk p1 8 (some ((M1 (sI 0 3) (p1).toNatClampNeg), M1))) else (if p2 = (2) then (chk p1 8 (some ((M1 (sI 0 4) (p1).toNatClampNeg), M1))) else (if p2 = (3) then (chk p1 8 (some ((M1 (sI 0 5) (p1).toNatClampNeg), M1))) else (if p2 = (4) then (bd (d_X0_doneOfRecipe 0 p1 M1) fun r8 M7 => (some (r8, M7))) else (some ((-2 : Int32), M1)))))))))
def d_X8_robot (p1 : Int32) (p2 : Int32) (M : Mem) : Ans :=
  (bd (d_X8_isRobot p1 M) fun r2 M1 => (if r2 = 0 then (some ((-1 : Int32), M1)) else (if p2 = (0) then (bd (d_X0_ofRobot 0 p1 (0 : Int32) M1) fun r4 M3 => (bd (d_X0_ofRobot 0 p1 (1 : Int32) M3) fun r6 M5 => (some ((r4 + r6), M5)))) else (if p2 = (1) then (bd (d_X0_ofRobot 0 p1 (2 : Int32) M1) fun r9 M8 => (some (r9, M8))) else (if p2 = (2) then (bd (d_X5_isBusyIn 0 p1 (M1 (sI 0 0) 0) M1) fun r12 M11 => (if r12 = 0 then (some ((0 : Int32), M11)) else (some ((1 : Int32), M11)))) else (if p2 = (3) then (bd (d_X5_firstFreeTick 0 p1 M1) fun r15 M14 => (some (r15, M14))) else (some ((-2 : Int32), M1))))))))
def d_X8_stateInTheEnd (p1 : Int32) (M : Mem) : Ans :=
  (bd (d_X8_forecastToEnd M) fun r2 M1 => (bd (d_X1_rowOf 0 p1 M1) fun r4 M3 => (if r4 = (-1 : Int32) then (bd (d_X0_stateOf 0 p1 M3) fun r6 M5 => (some (r6, M5))) else (chk r4 61 (some ((M3 (cI 0 2) (r4).toNatClampNeg), M3))))))
def d_X8_tickOfSpoiling (p1 : Int32) (M : Mem) : Ans :=
  (bd (d_X8_forecastToEnd M) fun r2 M1 => (bd (d_X1_rowOf 0 p1 M1) fun r4 M3 => (if r4 = (-1 : Int32) then (some ((-5 : Int32), M3)) else (chk r4 61 (some ((M3 (cI 0 4) (r4).toNatClampNeg), M3))))))
def d_X8_leastSpare (p1 : Int32) (M : Mem) : Ans :=
  (bd (d_X8_forecastToEnd M) fun r2 M1 => (bd (d_X1_rowOf 0 p1 M1) fun r4 M3 => (if r4 = (-1 : Int32) then (some ((-5 : Int32), M3)) else (chk r4 61 (some (((10000 : Int32) + (M3 (cI 0 5) (r4).toNatClampNeg)), M3))))))
def d_X8_booking (p1 : Int32) (p2 : Int32) (M : Mem) : Ans :=
  (bd (d_X0_has 0 p1 M) fun r2 M1 => (if r2 = 0 then (some ((-1 : Int32), M1)) else (if p2 = (0) then (chk p1 60 (some ((M1 (sI 0 7) (p1).toNatClampNeg), M1))) else (if p2 = (1) then (chk p1 60 (some ((M1 (sI 0 8) (p1).toNatClampNeg), M1))) else (if p2 = (2) then (chk p1 60 (some ((M1 (sI 0 9) (p1).toNatClampNeg), M1))) else (if p2 = (3) then (chk p1 60 (some ((M1 (sI 0 10) (p1).toNatClampNeg), M1))) else (if p2 = (4) then (chk p1 60 (some ((M1 (sI 0 11) (p1).toNatClampNeg), M1))) else (if p2 = (5) then (bd (d_X8_stateInTheEnd p1 M1) fun r9 M8 => (some (r9, M8))) else (if p2 = (6) then (bd (d_X8_tickOfSpoiling p1 M1) fun r12 M11 => (some (r12, M11))) else (if p2 = (7) then (bd (d_X8_leastSpare p1 M1) fun r15 M14 => (some (r15, M14))) else (some ((-2 : Int32), M1))))))))))))
def d_X8_wishTold (p1 : Int32) (p2 : Int32) (M : Mem) : Ans :=
  (bd (d_X7_has 0 p1 M) fun r2 M1 => (if r2 = 0 then (some ((-1 : Int32), M1)) else (if p2 = (0) then (chk p1 8 (some ((M1 (sI 0 13) (p1).toNatClampNeg), M1))) else (if p2 = (1) then (chk p1 8 (some ((M1 (sI 0 14) (p1).toNatClampNeg), M1))) else (if p2 = (2) then (chk p1 8 (some ((M1 (sI 0 15) (p1).toNatClampNeg), M1))) else (if p2 = (3) then (chk p1 8 (chk p1 8 (chk p1 8 (chk p1 8 (bd (d_X3_firstFit 0 (M1 (sI 0 6) 0) (M1 (sI 0 13) (p1).toNatClampNeg) (M1 (sI 0 14) (p1).toNatClampNeg) (M1 (sI 0 15) (p1).toNatClampNeg) ((M1 (sI 0 15) (p1).toNatClampNeg) + (20 : Int32)) M1) fun r7 M6 => (some (r7, M6))))))) else (some ((-2 : Int32), M1))))))))
def d_X8_pressureIn (p1 : Int32) (M : Mem) : Ans :=
  (bd (d_X8_within p1 (0 : Int32) (200 : Int32) M) fun r2 M1 => (if r2 = 0 then (some ((-2 : Int32), M1)) else (bd (d_X1_begin 0 0 M1) fun r4 M3 => (bd (d_X1_passTicks 0 p1 M3) fun r6 M5 => (some ((M5 (cI 0 0) 1), M5))))))
def d_X8_lowestIn (p1 : Int32) (M : Mem) : Ans :=
  (bd (d_X8_within p1 (1 : Int32) (200 : Int32) M) fun r2 M1 => (if r2 = 0 then (some ((-2 : Int32), M1)) else (bd (d_X1_begin 0 0 M1) fun r4 M3 => (bd (d_X1_passTicks 0 p1 M3) fun r6 M5 => (some ((M5 (cI 0 0) 4), M5))))))
def d_X8_why (p1 : Int32) (p2 : Int32) (p3 : Int32) (p4 : Int32) (M : Mem) : Ans :=
  (bd (d_X8_isRobot p1 M) fun r2 M1 => (if r2 = 0 then (some ((-1 : Int32), M1)) else (bd (d_X4_has 0 p2 M1) fun r4 M3 => (if r4 = 0 then (some ((-1 : Int32), M3)) else (bd (d_X5_canStart 0 p3 M3) fun r6 M5 => (if r6 = 0 then (some ((-2 : Int32), M5)) else (bd (d_X8_within p4 (0 : Int32) (2 : Int32) M5) fun r8 M7 => (if r8 = 0 then (some ((-2 : Int32), M7)) else (bd (d_X3_reasonAgainst 0 (M7 (sI 0 6) 0) p1 p2 p3 M7) fun r10 M9 => (if p4 = (0) then (some (r10, M9)) else (if p4 = (1) then (some ((M9 132 2), M9)) else (some ((M9 132 3), M9)))))))))))))
def d_X8_earliest (p1 : Int32) (p2 : Int32) (p3 : Int32) (M : Mem) : Ans :=
  (bd (d_X8_isRobot p1 M) fun r2 M1 => (if r2 = 0 then (some ((-1 : Int32), M1)) else (bd (d_X4_has 0 p2 M1) fun r4 M3 => (if r4 = 0 then (some ((-1 : Int32), M3)) else (bd (d_X5_canStart 0 p3 M3) fun r6 M5 => (if r6 = 0 then (some ((-2 : Int32), M5)) else (bd (d_X3_firstFit 0 (M5 (sI 0 6) 0) p1 p2 p3 (p3 + (60 : Int32)) M5) fun r8 M7 => (some (r8, M7)))))))))
def d_X8_count (p1 : Int32) (M : Mem) : Ans :=
  (bd (d_X8_within p1 (6 : Int32) (10 : Int32) M) fun r2 M1 => (if r2 = 0 then (if p1 = (0) then (some ((M1 (sI 0 0) 0), M1)) else (if p1 = (1) then (some ((M1 (sI 0 0) 1), M1)) else (if p1 = (2) then (some ((M1 (sI 0 0) 2), M1)) else (if p1 = (3) then (some ((M1 (sI 0 0) 3), M1)) else (if p1 = (4) then (some ((M1 (sI 0 1) 0), M1)) else (if p1 = (5) then (some ((M1 (sI 0 6) 0), M1)) else (if p1 = (6) then (some ((-2 : Int32), M1)) else (if p1 = (7) then (some ((-2 : Int32), M1)) else (if p1 = (8) then (some ((-2 : Int32), M1)) else (if p1 = (9) then (some ((-2 : Int32), M1)) else (if p1 = (10) then (some ((-2 : Int32), M1)) else (if p1 = (11) then (bd (d_X8_countDoomed M1) fun r15 M14 => (some (r15, M14))) else (if p1 = (12) then (some ((M1 (sI 0 12) 0), M1)) else (if p1 = (13) then (some ((M1 (sI 0 0) 4), M1)) else (if p1 = (14) then (some ((M1 (sI 0 0) 5), M1)) else (if p1 = (15) then (some ((M1 (sI 0 0) 6), M1)) else (if p1 = (16) then (some ((M1 134 1), M1)) else (if p1 = (17) then (some ((M1 136 1), M1)) else (some ((-2 : Int32), M1)))))))))))))))))))) else (bd (d_X0_inState 0 (p1 - (6 : Int32)) M1) fun r24 M23 => (some (r24, M23)))))
def d_X9_in (p0 : Int32) (p1 : Int32) (p2 : Int32) (M : Mem) : Ans :=
  (if p0 < p1 then (some ((0 : Int32), M)) else (if p2 < p0 then (some ((0 : Int32), M)) else (some ((1 : Int32), M))))
def d_X9_of (p1 : Int32) (p2 : Int32) (M : Mem) : Ans :=
  (chk (((42 : Int32) + ((5 : Int32) * p1)) + p2) 366 (some ((M 144 ((((42 : Int32) + ((5 : Int32) * p1)) + p2)).toNatClampNeg), M)))
def d_X9_puts (p1 : Int32) (p2 : Int32) (p3 : Int32) (M : Mem) : Ans :=
  (chk (((42 : Int32) + ((5 : Int32) * p1)) + p2) 366 (bnd (mup M 144 ((((42 : Int32) + ((5 : Int32) * p1)) + p2)).toNatClampNeg p3) fun M1 => (some (0, M1))))
def d_X9_ofRecipe (p1 : Int32) (p2 : Int32) (M : Mem) : Ans :=
  (chk (((10 : Int32) + ((4 : Int32) * p1)) + p2) 366 (some ((M 144 ((((10 : Int32) + ((4 : Int32) * p1)) + p2)).toNatClampNeg), M)))
def d_X9_ofWish (p1 : Int32) (p2 : Int32) (M : Mem) : Ans :=
  (chk (((342 : Int32) + ((3 : Int32) * p1)) + p2) 366 (some ((M 144 ((((342 : Int32) + ((3 : Int32) * p1)) + p2)).toNatClampNeg), M)))
def d_X9_noRecipe (p1 : Int32) (M : Mem) : Ans :=
  (chk (4 : Int32) 366 (bd (d_X9_in p1 (0 : Int32) ((M 144 ((4 : Int32)).toNatClampNeg) - (1 : Int32)) M) fun r2 M1 => (if r2 = 0 then (some ((1 : Int32), M1)) else (some ((0 : Int32), M1)))))
def d_X9_noRobot (p0 : Int32) (M : Mem) : Ans :=
  (bd (d_X9_in p0 (0 : Int32) (5 : Int32) M) fun r2 M1 => (if r2 = 0 then (some ((1 : Int32), M1)) else (some ((0 : Int32), M1))))
def d_X9_noBooking (p1 : Int32) (M : Mem) : Ans :=
  (chk (5 : Int32) 366 (bd (d_X9_in p1 (0 : Int32) ((M 144 ((5 : Int32)).toNatClampNeg) - (1 : Int32)) M) fun r2 M1 => (if r2 = 0 then (some ((1 : Int32), M1)) else (some ((0 : Int32), M1)))))
def d_X9_isStart (p1 : Int32) (M : Mem) : Ans :=
  (chk (0 : Int32) 366 (chk (0 : Int32) 366 (bd (d_X9_in p1 ((M 144 ((0 : Int32)).toNatClampNeg) + (1 : Int32)) ((M 144 ((0 : Int32)).toNatClampNeg) + (60 : Int32)) M) fun r2 M1 => (nar .boolean r2 (some (r2, M1))))))
def d_X9_isOpen (p1 : Int32) (M : Mem) : Ans :=
  (bd (d_X9_of p1 (3 : Int32) M) fun r2 M1 => (if (1 : Int32) < r2 then (some ((0 : Int32), M1)) else (some ((1 : Int32), M1))))
def d_X9_record_L51_body (kx1 : Mem → Ans) (kb : Int32 → Mem → Ans) (a1 : Int32) (M : Mem) : Ans :=
  (if (366 : Int32) ≤ a1 then (kx1 M) else (chk a1 366 (chk (((366 : Int32) * (M 143 2)) + a1) 1464 (bnd (mup M 145 ((((366 : Int32) * (M 143 2)) + a1)).toNatClampNeg (M 144 (a1).toNatClampNeg)) fun M1 => (bnd (a1 + (1)) fun v2 => (kb v2 M1))))))
def d_X9_record_L51 (kx1 : Mem → Ans) : Nat → Int32 → Mem → Ans
  | 0 => fun _ _ => none
  | n + 1 => fun a1 M => d_X9_record_L51_body kx1 (d_X9_record_L51 kx1 n) a1 M
def d_X9_record_B49 (M : Mem) : Ans :=
  (d_X9_record_L51 (fun M3 => (bnd (mup M3 143 2 ((M3 143 2) + (1 : Int32))) fun M4 => (some (0, M4)))) fuelN (0 : Int32) M)
def d_X9_record_L10_body (kx1 : Mem → Ans) (kb : Int32 → Mem → Ans) (a1 : Int32) (M : Mem) : Ans :=
  (if (1098 : Int32) ≤ a1 then (kx1 M) else (chk (a1 + (366 : Int32)) 1464 (chk a1 1464 (bnd (mup M 145 (a1).toNatClampNeg (M 145 ((a1 + (366 : Int32))).toNatClampNeg)) fun M5 => (bnd (a1 + (1)) fun v6 => (kb v6 M5))))))
def d_X9_record_L10 (kx1 : Mem → Ans) : Nat → Int32 → Mem → Ans
  | 0 => fun _ _ => none
  | n + 1 => fun a1 M => d_X9_record_L10_body kx1 (d_X9_record_L10 kx1 n) a1 M
def d_X9_record (M : Mem) : Ans :=
  (if (M 143 2) = (4 : Int32) then (d_X9_record_L10 (fun M7 => (bnd (mup M7 143 2 ((M7 143 2) - (1 : Int32))) fun M8 => (d_X9_record_B49 M8))) fuelN (0 : Int32) M) else (d_X9_record_B49 M))
def d_X9_asks_B117 (a1 : Int32) (a2 : Int32) (a3 : Int32) (a4 : Int32) (s0 : Int32) (M : Mem) : Ans :=
  (bnd (mup M 143 10 s0) fun M12 => (bd (d_X9_ofRecipe a2 (2 : Int32) M12) fun r14 M13 => (if a4 = ((a3 + r14) - (1 : Int32)) then (chk a1 61 (bnd (mup M13 148 (a1).toNatClampNeg (2 : Int32)) fun M16 => (some (0, M16)))) else (chk a1 61 (bnd (mup M13 148 (a1).toNatClampNeg (1 : Int32)) fun M15 => (some (0, M15)))))))
def d_X9_asks_B70 (a1 : Int32) (a2 : Int32) (a3 : Int32) (a4 : Int32) (a5 : Int32) (s0 : Int32) (s1 : Int32) (M : Mem) : Ans :=
  (chk s1 61 (bnd (mup M 150 (s1).toNatClampNeg s0) fun M8 => (if 0 ≤ a5 then (bd (d_X9_ofRecipe a2 (1 : Int32) M8) fun r10 M9 => (bnd ((M8 143 10) - r10) fun v11 => (if 0 ≤ v11 then (d_X9_asks_B117 a1 a2 a3 a4 v11 M9) else (d_X9_asks_B117 a1 a2 a3 a4 (0 : Int32) M9)))) else (chk a1 61 (bnd (mup M8 148 (a1).toNatClampNeg (3 : Int32)) fun M17 => (chk a1 61 (bnd (mup M17 149 (a1).toNatClampNeg a4) fun M18 => (some (0, M18)))))))))
def d_X9_asks (p1 : Int32) (p2 : Int32) (p3 : Int32) (p4 : Int32) (M : Mem) : Ans :=
  (chk p1 61 (if (1 : Int32) < (M 148 (p1).toNatClampNeg) then (some (0, M)) else (bd (d_X9_ofRecipe p2 (2 : Int32) M) fun r2 M1 => (bd (d_X9_in p4 p3 ((p3 + r2) - (1 : Int32)) M1) fun r4 M3 => (if r4 = 0 then (some (0, M3)) else (bd (d_X9_ofRecipe p2 (0 : Int32) M3) fun r6 M5 => (bnd ((M3 143 10) - r6) fun v7 => (chk p1 61 (if (M5 150 (p1).toNatClampNeg) ≤ v7 then (chk p1 61 (d_X9_asks_B70 p1 p2 p3 p4 v7 (M5 150 (p1).toNatClampNeg) p1 M5)) else (d_X9_asks_B70 p1 p2 p3 p4 v7 v7 p1 M5))))))))))
def d_X9_begins_B43 (kx1 : Mem → Ans) (kb : Int32 → Mem → Ans) (a1 : Int32) (s0 : Int32) (s1 : Int32) (M : Mem) : Ans :=
  (chk s1 61 (bnd (mup M 148 (s1).toNatClampNeg s0) fun M2 => (chk a1 61 (bnd (mup M2 149 (a1).toNatClampNeg (0 : Int32)) fun M3 => (chk a1 61 (bnd (mup M3 150 (a1).toNatClampNeg (99999 : Int32)) fun M4 => (bnd (a1 + (1)) fun v5 => (kb v5 M4))))))))
def d_X9_begins_L12_body (kx1 : Mem → Ans) (kb : Int32 → Mem → Ans) (a1 : Int32) (M : Mem) : Ans :=
  (if (60 : Int32) < a1 then (kx1 M) else (chk (5 : Int32) 366 (if (M 144 ((5 : Int32)).toNatClampNeg) ≤ a1 then (d_X9_begins_B43 kx1 kb a1 (0 : Int32) a1 M) else (bd (d_X9_of a1 (3 : Int32) M) fun r7 M6 => (d_X9_begins_B43 kx1 kb a1 r7 a1 M6)))))
def d_X9_begins_L12 (kx1 : Mem → Ans) : Nat → Int32 → Mem → Ans
  | 0 => fun _ _ => none
  | n + 1 => fun a1 M => d_X9_begins_L12_body kx1 (d_X9_begins_L12 kx1 n) a1 M
def d_X9_begins (M : Mem) : Ans :=
  (chk (1 : Int32) 366 (bnd (mup M 143 10 (M 144 ((1 : Int32)).toNatClampNeg)) fun M1 => (d_X9_begins_L12 (fun M8 => (some (0, M8))) fuelN (0 : Int32) M1)))
def d_X9_foresees_B98 (kx1 : Mem → Ans) (kb : Int32 → Mem → Ans) (a1 : Int32) (a2 : Int32) (M : Mem) : Ans :=
  (bnd (a2 + (1)) fun v3 => (kb v3 M))
def d_X9_foresees_B94 (kx1 : Mem → Ans) (kb : Int32 → Mem → Ans) (a1 : Int32) (a2 : Int32) (s0 : Int32) (s1 : Int32) (s2 : Int32) (M : Mem) : Ans :=
  (bd (d_X9_asks s2 s1 s0 a1 M) fun r9 M8 => (d_X9_foresees_B98 kx1 kb a1 a2 M8))
def d_X9_foresees_L47_body (a1 : Int32) (kx1 : Mem → Ans) (kb : Int32 → Mem → Ans) (a2 : Int32) (M : Mem) : Ans :=
  (chk (5 : Int32) 366 (if (M 144 ((5 : Int32)).toNatClampNeg) ≤ a2 then (kx1 M) else (if a2 = (M 143 13) then (d_X9_foresees_B98 kx1 kb a1 a2 M) else (bd (d_X9_of a2 (1 : Int32) M) fun r5 M4 => (if a2 = (M4 143 14) then (d_X9_foresees_B94 kx1 kb a1 a2 (M4 143 15) r5 a2 M4) else (bd (d_X9_of a2 (2 : Int32) M4) fun r7 M6 => (d_X9_foresees_B94 kx1 kb a1 a2 r7 r5 a2 M6)))))))
def d_X9_foresees_L47 (a1 : Int32) (kx1 : Mem → Ans) : Nat → Int32 → Mem → Ans
  | 0 => fun _ _ => none
  | n + 1 => fun a2 M => d_X9_foresees_L47_body a1 kx1 (d_X9_foresees_L47 a1 kx1 n) a2 M
def d_X9_foresees_B42 (a1 : Int32) (s0 : Int32) (M : Mem) : Ans :=
  (bnd (mup M 143 10 s0) fun M2 => (d_X9_foresees_L47 a1 (fun M10 => (if (M10 143 11) < 0 then (some (0, M10)) else (bd (d_X9_asks (60 : Int32) (M10 143 11) (M10 143 12) a1 M10) fun r12 M11 => (some (0, M11))))) fuelN (0 : Int32) M2))
def d_X9_foresees (p1 : Int32) (M : Mem) : Ans :=
  (chk (3 : Int32) 366 (bnd (mup M 143 10 ((M 143 10) + (M 144 ((3 : Int32)).toNatClampNeg))) fun M1 => (chk (2 : Int32) 366 (if (M1 143 10) ≤ (M1 144 ((2 : Int32)).toNatClampNeg) then (d_X9_foresees_B42 p1 (M1 143 10) M1) else (chk (2 : Int32) 366 (d_X9_foresees_B42 p1 (M1 144 ((2 : Int32)).toNatClampNeg) M1))))))
def d_X9_forecast_L6_body (kx1 : Mem → Ans) (kb : Int32 → Mem → Ans) (a1 : Int32) (M : Mem) : Ans :=
  (if (80 : Int32) < a1 then (kx1 M) else (chk (0 : Int32) 366 (bd (d_X9_foresees ((M 144 ((0 : Int32)).toNatClampNeg) + a1) M) fun r4 M3 => (bnd (a1 + (1)) fun v5 => (kb v5 M3)))))
def d_X9_forecast_L6 (kx1 : Mem → Ans) : Nat → Int32 → Mem → Ans
  | 0 => fun _ _ => none
  | n + 1 => fun a1 M => d_X9_forecast_L6_body kx1 (d_X9_forecast_L6 kx1 n) a1 M
def d_X9_forecast (M : Mem) : Ans :=
  (bd (d_X9_begins M) fun r2 M1 => (d_X9_forecast_L6 (fun M6 => (some (0, M6))) fuelN (1 : Int32) M1))
def d_X9_doomed_B33 (kx1 : Int32 → Mem → Ans) (kb : Int32 → Int32 → Mem → Ans) (a2 : Int32) (s0 : Int32) (s1 : Int32) (M : Mem) : Ans :=
  (bnd (s1 + s0) fun v3 => (bnd (a2 + (1)) fun v4 => (kb v3 v4 M)))
def d_X9_doomed_L8_body (kx1 : Int32 → Mem → Ans) (kb : Int32 → Int32 → Mem → Ans) (a1 : Int32) (a2 : Int32) (M : Mem) : Ans :=
  (chk (5 : Int32) 366 (if (M 144 ((5 : Int32)).toNatClampNeg) ≤ a2 then (kx1 a1 M) else (chk a2 61 (if (M 149 (a2).toNatClampNeg) ≤ 0 then (d_X9_doomed_B33 kx1 kb a2 (0 : Int32) a1 M) else (d_X9_doomed_B33 kx1 kb a2 (1 : Int32) a1 M)))))
def d_X9_doomed_L8 (kx1 : Int32 → Mem → Ans) : Nat → Int32 → Int32 → Mem → Ans
  | 0 => fun _ _ _ => none
  | n + 1 => fun a1 a2 M => d_X9_doomed_L8_body kx1 (d_X9_doomed_L8 kx1 n) a1 a2 M
def d_X9_doomed (M : Mem) : Ans :=
  (bd (d_X9_forecast M) fun r2 M1 => (d_X9_doomed_L8 (fun v5 M6 => (some (v5, M6))) fuelN (0 : Int32) (0 : Int32) M1))
def d_X9_last (p1 : Int32) (p2 : Int32) (M : Mem) : Ans :=
  (bd (d_X9_ofRecipe p1 (2 : Int32) M) fun r2 M1 => (bd (d_X9_ofRecipe p1 (3 : Int32) M1) fun r4 M3 => (some ((((p2 + r2) - (1 : Int32)) + r4), M3))))
def d_X9_keeper_B79 (kx1 : Mem → Ans) (kb : Int32 → Mem → Ans) (a1 : Int32) (a2 : Int32) (a3 : Int32) (a4 : Int32) (a5 : Int32) (M : Mem) : Ans :=
  (bnd (a5 + (1)) fun v1 => (kb v1 M))
def d_X9_keeper_L3_body (a1 : Int32) (a2 : Int32) (a3 : Int32) (a4 : Int32) (kx1 : Mem → Ans) (kb : Int32 → Mem → Ans) (a5 : Int32) (M : Mem) : Ans :=
  (chk (5 : Int32) 366 (if (M 144 ((5 : Int32)).toNatClampNeg) ≤ a5 then (kx1 M) else (if a5 = a4 then (d_X9_keeper_B79 kx1 kb a1 a2 a3 a4 a5 M) else (bd (d_X9_of a5 (0 : Int32) M) fun r3 M2 => (if r3 = a1 then (bd (d_X9_of a5 (3 : Int32) M2) fun r5 M4 => (if (2 : Int32) < r5 then (d_X9_keeper_B79 kx1 kb a1 a2 a3 a4 a5 M4) else (bd (d_X9_of a5 (2 : Int32) M4) fun r7 M6 => (if a3 < r7 then (d_X9_keeper_B79 kx1 kb a1 a2 a3 a4 a5 M6) else (bd (d_X9_of a5 (1 : Int32) M6) fun r9 M8 => (bd (d_X9_of a5 (2 : Int32) M8) fun r11 M10 => (bd (d_X9_last r9 r11 M10) fun r13 M12 => (if r13 < a2 then (d_X9_keeper_B79 kx1 kb a1 a2 a3 a4 a5 M12) else (some (a5, M12)))))))))) else (d_X9_keeper_B79 kx1 kb a1 a2 a3 a4 a5 M2))))))
def d_X9_keeper_L3 (a1 : Int32) (a2 : Int32) (a3 : Int32) (a4 : Int32) (kx1 : Mem → Ans) : Nat → Int32 → Mem → Ans
  | 0 => fun _ _ => none
  | n + 1 => fun a5 M => d_X9_keeper_L3_body a1 a2 a3 a4 kx1 (d_X9_keeper_L3 a1 a2 a3 a4 kx1 n) a5 M
def d_X9_keeper (p1 : Int32) (p2 : Int32) (p3 : Int32) (p4 : Int32) (M : Mem) : Ans :=
  (d_X9_keeper_L3 p1 p2 p3 p4 (fun M14 => (some ((-5 : Int32), M14))) fuelN (0 : Int32) M)
def d_X9_bases_L16_body (kx1 : Mem → Ans) (kb : Int32 → Mem → Ans) (a2 : Int32) (M : Mem) : Ans :=
  (if (60 : Int32) < a2 then (kx1 M) else (chk a2 61 (chk a2 61 (bnd (mup M 151 (a2).toNatClampNeg (M 149 (a2).toNatClampNeg)) fun M5 => (bnd (a2 + (1)) fun v6 => (kb v6 M5))))))
def d_X9_bases_L16 (kx1 : Mem → Ans) : Nat → Int32 → Mem → Ans
  | 0 => fun _ _ => none
  | n + 1 => fun a2 M => d_X9_bases_L16_body kx1 (d_X9_bases_L16 kx1 n) a2 M
def d_X9_bases (p1 : Int32) (M : Mem) : Ans :=
  (bnd (mup M 143 13 p1) fun M1 => (bd (d_X9_forecast M1) fun r3 M2 => (bnd (mup M2 143 13 (-1 : Int32)) fun M4 => (d_X9_bases_L16 (fun M7 => (some (0, M7))) fuelN (0 : Int32) M4))))
def d_X9_reason_B139 (kx1 : Mem → Ans) (kb : Int32 → Mem → Ans) (a5 : Int32) (a6 : Int32) (M : Mem) : Ans :=
  (bnd (a6 + (1)) fun v11 => (kb v11 M))
def d_X9_reason_L93_body (a5 : Int32) (kx1 : Mem → Ans) (kb : Int32 → Mem → Ans) (a6 : Int32) (M : Mem) : Ans :=
  (chk (5 : Int32) 366 (if (M 144 ((5 : Int32)).toNatClampNeg) ≤ a6 then (kx1 M) else (if a6 = a5 then (d_X9_reason_B139 kx1 kb a5 a6 M) else (chk a6 61 (if (M 149 (a6).toNatClampNeg) ≤ 0 then (d_X9_reason_B139 kx1 kb a5 a6 M) else (chk a6 61 (if (M 151 (a6).toNatClampNeg) = 0 then (bnd (mup M 143 16 a6) fun M12 => (some ((3 : Int32), M12))) else (d_X9_reason_B139 kx1 kb a5 a6 M))))))))
def d_X9_reason_L93 (a5 : Int32) (kx1 : Mem → Ans) : Nat → Int32 → Mem → Ans
  | 0 => fun _ _ => none
  | n + 1 => fun a6 M => d_X9_reason_L93_body a5 kx1 (d_X9_reason_L93 a5 kx1 n) a6 M
def d_X9_reason_B76 (s0 : Int32) (M : Mem) : Ans :=
  (chk s0 61 (if (M 149 (s0).toNatClampNeg) ≤ 0 then (d_X9_reason_L93 s0 (fun M13 => (some ((0 : Int32), M13))) fuelN (0 : Int32) M) else (some ((2 : Int32), M))))
def d_X9_reason_B50 (a4 : Int32) (M : Mem) : Ans :=
  (bd (d_X9_forecast M) fun r8 M7 => (bnd (mup M7 143 11 (-1 : Int32)) fun M9 => (bnd (mup M9 143 14 (-1 : Int32)) fun M10 => (if 0 ≤ a4 then (d_X9_reason_B76 a4 M10) else (d_X9_reason_B76 (60 : Int32) M10)))))
def d_X9_reason (p1 : Int32) (p2 : Int32) (p3 : Int32) (p4 : Int32) (M : Mem) : Ans :=
  (bd (d_X9_last p2 p3 M) fun r2 M1 => (bd (d_X9_keeper p1 p3 r2 p4 M1) fun r4 M3 => (if r4 = (-5 : Int32) then (if 0 ≤ p4 then (bnd (mup M3 143 14 p4) fun M5 => (bnd (mup M5 143 15 p3) fun M6 => (d_X9_reason_B50 p4 M6))) else (bnd (mup M3 143 11 p2) fun M14 => (bnd (mup M14 143 12 p3) fun M15 => (d_X9_reason_B50 p4 M15)))) else (some ((1 : Int32), M3)))))
def d_X9_first_L58_body (a1 : Int32) (a2 : Int32) (a5 : Int32) (a7 : Int32) (kx1 : Mem → Ans) (kb : Int32 → Mem → Ans) (a8 : Int32) (M : Mem) : Ans :=
  (if a7 < a8 then (kx1 M) else (bd (d_X9_reason a1 a2 a8 a5 M) fun r2 M1 => (if r2 = 0 then (some (a8, M1)) else (bnd (a8 + (1)) fun v3 => (kb v3 M1)))))
def d_X9_first_L58 (a1 : Int32) (a2 : Int32) (a5 : Int32) (a7 : Int32) (kx1 : Mem → Ans) : Nat → Int32 → Mem → Ans
  | 0 => fun _ _ => none
  | n + 1 => fun a8 M => d_X9_first_L58_body a1 a2 a5 a7 kx1 (d_X9_first_L58 a1 a2 a5 a7 kx1 n) a8 M
def d_X9_first_B52 (a1 : Int32) (a2 : Int32) (a5 : Int32) (a6 : Int32) (s0 : Int32) (M : Mem) : Ans :=
  (d_X9_first_L58 a1 a2 a5 s0 (fun M4 => (some ((-5 : Int32), M4))) fuelN a6 M)
def d_X9_first_B22 (a1 : Int32) (a2 : Int32) (a4 : Int32) (a5 : Int32) (s0 : Int32) (M : Mem) : Ans :=
  (chk (0 : Int32) 366 (if ((M 144 ((0 : Int32)).toNatClampNeg) + (60 : Int32)) ≤ a4 then (chk (0 : Int32) 366 (d_X9_first_B52 a1 a2 a5 s0 ((M 144 ((0 : Int32)).toNatClampNeg) + (60 : Int32)) M)) else (d_X9_first_B52 a1 a2 a5 s0 a4 M)))
def d_X9_first (p1 : Int32) (p2 : Int32) (p3 : Int32) (p4 : Int32) (p5 : Int32) (M : Mem) : Ans :=
  (chk (0 : Int32) 366 (if p3 ≤ (M 144 ((0 : Int32)).toNatClampNeg) then (chk (0 : Int32) 366 (d_X9_first_B22 p1 p2 p4 p5 ((M 144 ((0 : Int32)).toNatClampNeg) + (1 : Int32)) M)) else (d_X9_first_B22 p1 p2 p4 p5 p3 M)))
def d_X9_adds (p1 : Int32) (p2 : Int32) (p3 : Int32) (M : Mem) : Ans :=
  (chk (5 : Int32) 366 (bnd (M 144 ((5 : Int32)).toNatClampNeg) fun v1 => (bd (d_X9_puts v1 (0 : Int32) p1 M) fun r3 M2 => (bd (d_X9_puts v1 (1 : Int32) p2 M2) fun r5 M4 => (bd (d_X9_puts v1 (2 : Int32) p3 M4) fun r7 M6 => (bd (d_X9_puts v1 (3 : Int32) (0 : Int32) M6) fun r9 M8 => (bd (d_X9_puts v1 (4 : Int32) (0 : Int32) M8) fun r11 M10 => (chk (5 : Int32) 366 (chk (5 : Int32) 366 (bnd (mup M10 144 ((5 : Int32)).toNatClampNeg ((M10 144 ((5 : Int32)).toNatClampNeg) + (1 : Int32))) fun M12 => (some (v1, M12))))))))))))
def d_X9_addRecipe (p1 : Int32) (p2 : Int32) (p3 : Int32) (p4 : Int32) (M : Mem) : Ans :=
  (bd (d_X9_in p1 (0 : Int32) (3000 : Int32) M) fun r2 M1 => (if r2 = 0 then (some ((-2 : Int32), M1)) else (bd (d_X9_in p2 (1 : Int32) (500 : Int32) M1) fun r4 M3 => (if r4 = 0 then (some ((-2 : Int32), M3)) else (bd (d_X9_in p3 (1 : Int32) (20 : Int32) M3) fun r6 M5 => (if r6 = 0 then (some ((-2 : Int32), M5)) else (bd (d_X9_in p4 (0 : Int32) (9 : Int32) M5) fun r8 M7 => (if r8 = 0 then (some ((-2 : Int32), M7)) else (chk (4 : Int32) 366 (bnd (M7 144 ((4 : Int32)).toNatClampNeg) fun v9 => (if v9 = (8 : Int32) then (some ((-3 : Int32), M7)) else (bd (d_X9_record M7) fun r11 M10 => (bnd ((10 : Int32) + ((4 : Int32) * v9)) fun v12 => (chk v12 366 (bnd (mup M10 144 (v12).toNatClampNeg p1) fun M13 => (chk (v12 + (1 : Int32)) 366 (bnd (mup M13 144 ((v12 + (1 : Int32))).toNatClampNeg p2) fun M14 => (chk (v12 + (2 : Int32)) 366 (bnd (mup M14 144 ((v12 + (2 : Int32))).toNatClampNeg p3) fun M15 => (chk (v12 + (3 : Int32)) 366 (bnd (mup M15 144 ((v12 + (3 : Int32))).toNatClampNeg p4) fun M16 => (chk (4 : Int32) 366 (chk (4 : Int32) 366 (bnd (mup M16 144 ((4 : Int32)).toNatClampNeg ((M16 144 ((4 : Int32)).toNatClampNeg) + (1 : Int32))) fun M17 => (some (v9, M17))))))))))))))))))))))))))
def d_X9_setHeat (p1 : Int32) (M : Mem) : Ans :=
  (bd (d_X9_in p1 (0 : Int32) (300 : Int32) M) fun r2 M1 => (if r2 = 0 then (some ((-2 : Int32), M1)) else (chk (3 : Int32) 366 (if (M1 144 ((3 : Int32)).toNatClampNeg) = p1 then (some ((-5 : Int32), M1)) else (bd (d_X9_record M1) fun r4 M3 => (chk (3 : Int32) 366 (bnd (mup M3 144 ((3 : Int32)).toNatClampNeg p1) fun M5 => (bd (d_X9_doomed M5) fun r7 M6 => (some (r7, M6))))))))))
def d_X9_setMost_B64 (s0 : Int32) (s1 : Int32) (M : Mem) : Ans :=
  (chk s1 366 (bnd (mup M 144 (s1).toNatClampNeg s0) fun M6 => (chk (1 : Int32) 366 (some ((M6 144 ((1 : Int32)).toNatClampNeg), M6)))))
def d_X9_setMost (p1 : Int32) (M : Mem) : Ans :=
  (bd (d_X9_in p1 (100 : Int32) (3000 : Int32) M) fun r2 M1 => (if r2 = 0 then (some ((-2 : Int32), M1)) else (chk (2 : Int32) 366 (if (M1 144 ((2 : Int32)).toNatClampNeg) = p1 then (some ((-5 : Int32), M1)) else (bd (d_X9_record M1) fun r4 M3 => (chk (2 : Int32) 366 (bnd (mup M3 144 ((2 : Int32)).toNatClampNeg p1) fun M5 => (chk (1 : Int32) 366 (if (M5 144 ((1 : Int32)).toNatClampNeg) ≤ p1 then (chk (1 : Int32) 366 (d_X9_setMost_B64 (M5 144 ((1 : Int32)).toNatClampNeg) (1 : Int32) M5)) else (d_X9_setMost_B64 p1 (1 : Int32) M5))))))))))
def d_X9_fall_B53 (s0 : Int32) (s1 : Int32) (M : Mem) : Ans :=
  (chk s1 366 (bnd (mup M 144 (s1).toNatClampNeg s0) fun M6 => (bd (d_X9_doomed M6) fun r8 M7 => (some (r8, M7)))))
def d_X9_fall (p1 : Int32) (M : Mem) : Ans :=
  (bd (d_X9_in p1 (1 : Int32) (3000 : Int32) M) fun r2 M1 => (if r2 = 0 then (some ((-2 : Int32), M1)) else (chk (1 : Int32) 366 (if (M1 144 ((1 : Int32)).toNatClampNeg) = 0 then (some ((-5 : Int32), M1)) else (bd (d_X9_record M1) fun r4 M3 => (chk (1 : Int32) 366 (bnd ((M3 144 ((1 : Int32)).toNatClampNeg) - p1) fun v5 => (if 0 ≤ v5 then (d_X9_fall_B53 v5 (1 : Int32) M3) else (d_X9_fall_B53 (0 : Int32) (1 : Int32) M3)))))))))
def d_X9_wrong (p1 : Int32) (p2 : Int32) (p3 : Int32) (M : Mem) : Ans :=
  (bd (d_X9_noRobot p1 M) fun r2 M1 => (if r2 = 0 then (bd (d_X9_noRecipe p2 M1) fun r4 M3 => (if r4 = 0 then (bd (d_X9_isStart p3 M3) fun r6 M5 => (if r6 = 0 then (some ((-2 : Int32), M5)) else (chk (5 : Int32) 366 (if (M5 144 ((5 : Int32)).toNatClampNeg) = (60 : Int32) then (some ((-3 : Int32), M5)) else (bd (d_X9_bases (-1 : Int32) M5) fun r8 M7 => (bd (d_X9_reason p1 p2 p3 (-1 : Int32) M7) fun r10 M9 => (if r10 = 0 then (some ((0 : Int32), M9)) else (if r10 = (1 : Int32) then (some ((-6 : Int32), M9)) else (some ((-7 : Int32), M9)))))))))) else (some ((-1 : Int32), M3)))) else (some ((-1 : Int32), M1))))
def d_X9_book (p1 : Int32) (p2 : Int32) (p3 : Int32) (M : Mem) : Ans :=
  (bd (d_X9_wrong p1 p2 p3 M) fun r2 M1 => (if r2 = 0 then (bd (d_X9_record M1) fun r4 M3 => (bd (d_X9_adds p1 p2 p3 M3) fun r6 M5 => (some (r6, M5)))) else (some (r2, M1))))
def d_X9_grants (p1 : Int32) (p2 : Int32) (p3 : Int32) (M : Mem) : Ans :=
  (chk (5 : Int32) 366 (if (M 144 ((5 : Int32)).toNatClampNeg) = (60 : Int32) then (some ((-5 : Int32), M)) else (bd (d_X9_bases (-1 : Int32) M) fun r2 M1 => (bd (d_X9_first p1 p2 p3 (p3 + (20 : Int32)) (-1 : Int32) M1) fun r4 M3 => (if r4 = (-5 : Int32) then (some ((-5 : Int32), M3)) else (chk (7 : Int32) 366 (chk (7 : Int32) 366 (bnd (mup M3 144 ((7 : Int32)).toNatClampNeg ((M3 144 ((7 : Int32)).toNatClampNeg) + (1 : Int32))) fun M5 => (bd (d_X9_adds p1 p2 r4 M5) fun r7 M6 => (some (r7, M6)))))))))))
def d_X9_leaves_L15_body (kx1 : Mem → Ans) (kb : Int32 → Mem → Ans) (a2 : Int32) (M : Mem) : Ans :=
  (chk (6 : Int32) 366 (if ((3 : Int32) * (M 144 ((6 : Int32)).toNatClampNeg)) ≤ a2 then (kx1 M) else (chk (((342 : Int32) + a2) + (3 : Int32)) 366 (chk ((342 : Int32) + a2) 366 (bnd (mup M 144 (((342 : Int32) + a2)).toNatClampNeg (M 144 ((((342 : Int32) + a2) + (3 : Int32))).toNatClampNeg)) fun M3 => (bnd (a2 + (1)) fun v4 => (kb v4 M3)))))))
def d_X9_leaves_L15 (kx1 : Mem → Ans) : Nat → Int32 → Mem → Ans
  | 0 => fun _ _ => none
  | n + 1 => fun a2 M => d_X9_leaves_L15_body kx1 (d_X9_leaves_L15 kx1 n) a2 M
def d_X9_leaves (p1 : Int32) (M : Mem) : Ans :=
  (chk (6 : Int32) 366 (chk (6 : Int32) 366 (bnd (mup M 144 ((6 : Int32)).toNatClampNeg ((M 144 ((6 : Int32)).toNatClampNeg) - (1 : Int32))) fun M1 => (bnd ((3 : Int32) * p1) fun v2 => (d_X9_leaves_L15 (fun M5 => (some (0, M5))) fuelN v2 M1)))))
def d_X9_cancel_L36_body (kx1 : Int32 → Mem → Ans) (kb : Int32 → Int32 → Mem → Ans) (a2 : Int32) (a3 : Int32) (M : Mem) : Ans :=
  (chk (6 : Int32) 366 (if (M 144 ((6 : Int32)).toNatClampNeg) ≤ a3 then (kx1 a2 M) else (bd (d_X9_ofWish a3 (0 : Int32) M) fun r10 M9 => (bd (d_X9_ofWish a3 (1 : Int32) M9) fun r12 M11 => (bd (d_X9_ofWish a3 (2 : Int32) M11) fun r14 M13 => (bd (d_X9_grants r10 r12 r14 M13) fun r16 M15 => (if r16 = (-5 : Int32) then (bnd (a3 + (1)) fun v20 => (kb a2 v20 M15)) else (bd (d_X9_leaves a3 M15) fun r18 M17 => (bnd (a2 + (1)) fun v19 => (kb v19 a3 M17))))))))))
def d_X9_cancel_L36 (kx1 : Int32 → Mem → Ans) : Nat → Int32 → Int32 → Mem → Ans
  | 0 => fun _ _ _ => none
  | n + 1 => fun a2 a3 M => d_X9_cancel_L36_body kx1 (d_X9_cancel_L36 kx1 n) a2 a3 M
def d_X9_cancel (p1 : Int32) (M : Mem) : Ans :=
  (bd (d_X9_noBooking p1 M) fun r2 M1 => (if r2 = 0 then (bd (d_X9_isOpen p1 M1) fun r4 M3 => (if r4 = 0 then (some ((-4 : Int32), M3)) else (bd (d_X9_record M3) fun r6 M5 => (bd (d_X9_puts p1 (3 : Int32) (4 : Int32) M5) fun r8 M7 => (d_X9_cancel_L36 (fun v21 M22 => (some (v21, M22))) fuelN (0 : Int32) (0 : Int32) M7))))) else (some ((-1 : Int32), M1))))
def d_X9_move (p1 : Int32) (p2 : Int32) (M : Mem) : Ans :=
  (bd (d_X9_noBooking p1 M) fun r2 M1 => (if r2 = 0 then (bd (d_X9_of p1 (3 : Int32) M1) fun r4 M3 => (if r4 = 0 then (bd (d_X9_isStart p2 M3) fun r6 M5 => (if r6 = 0 then (some ((-2 : Int32), M5)) else (bd (d_X9_of p1 (2 : Int32) M5) fun r8 M7 => (if r8 = p2 then (some ((-5 : Int32), M7)) else (bd (d_X9_bases p1 M7) fun r10 M9 => (bd (d_X9_of p1 (0 : Int32) M9) fun r12 M11 => (bd (d_X9_of p1 (1 : Int32) M11) fun r14 M13 => (bd (d_X9_reason r12 r14 p2 p1 M13) fun r16 M15 => (if r16 = 0 then (bd (d_X9_record M15) fun r18 M17 => (bd (d_X9_puts p1 (2 : Int32) p2 M17) fun r20 M19 => (some (r8, M19)))) else (if r16 = (1 : Int32) then (some ((-6 : Int32), M15)) else (some ((-7 : Int32), M15)))))))))))) else (some ((-4 : Int32), M3)))) else (some ((-1 : Int32), M1))))
def d_X9_sick_B45 (kx1 : Mem → Ans) (kb : Int32 → Mem → Ans) (a1 : Int32) (M : Mem) : Ans :=
  (bnd (a1 + (1)) fun v5 => (kb v5 M))
def d_X9_sick_L6_body (kx1 : Mem → Ans) (kb : Int32 → Mem → Ans) (a1 : Int32) (M : Mem) : Ans :=
  (chk (5 : Int32) 366 (if (M 144 ((5 : Int32)).toNatClampNeg) ≤ a1 then (kx1 M) else (bd (d_X9_of a1 (3 : Int32) M) fun r4 M3 => (if r4 = 0 then (chk a1 61 (if (M3 149 (a1).toNatClampNeg) ≤ 0 then (d_X9_sick_B45 kx1 kb a1 M3) else (chk a1 60 (if (M3 152 (a1).toNatClampNeg) = 0 then (some (a1, M3)) else (d_X9_sick_B45 kx1 kb a1 M3))))) else (d_X9_sick_B45 kx1 kb a1 M3)))))
def d_X9_sick_L6 (kx1 : Mem → Ans) : Nat → Int32 → Mem → Ans
  | 0 => fun _ _ => none
  | n + 1 => fun a1 M => d_X9_sick_L6_body kx1 (d_X9_sick_L6 kx1 n) a1 M
def d_X9_sick (M : Mem) : Ans :=
  (bd (d_X9_forecast M) fun r2 M1 => (d_X9_sick_L6 (fun M6 => (some ((-5 : Int32), M6))) fuelN (0 : Int32) M1))
def d_X9_repair_L2_body (kx1 : Mem → Ans) (kb : Int32 → Mem → Ans) (a1 : Int32) (M : Mem) : Ans :=
  (if (60 : Int32) ≤ a1 then (kx1 M) else (chk a1 60 (bnd (mup M 152 (a1).toNatClampNeg (vp_nar .boolean (0 : Int32))) fun M1 => (bnd (a1 + (1)) fun v2 => (kb v2 M1)))))
def d_X9_repair_L2 (kx1 : Mem → Ans) : Nat → Int32 → Mem → Ans
  | 0 => fun _ _ => none
  | n + 1 => fun a1 M => d_X9_repair_L2_body kx1 (d_X9_repair_L2 kx1 n) a1 M
def d_X9_repair_B113 (kx1 : Int32 → Mem → Ans) (kb : Int32 → Int32 → Mem → Ans) (a1 : Int32) (a2 : Int32) (M : Mem) : Ans :=
  (chk a1 60 (bnd (mup M 152 (a1).toNatClampNeg (vp_nar .boolean (1 : Int32))) fun M21 => (bd (d_X9_sick M21) fun r23 M22 => (kb r23 a2 M22))))
def d_X9_repair_L41_body (kx1 : Int32 → Mem → Ans) (kb : Int32 → Int32 → Mem → Ans) (a1 : Int32) (a2 : Int32) (M : Mem) : Ans :=
  (if a1 = (-5 : Int32) then (kx1 a2 M) else (bd (d_X9_bases a1 M) fun r9 M8 => (bd (d_X9_of a1 (0 : Int32) M8) fun r11 M10 => (bd (d_X9_of a1 (1 : Int32) M10) fun r13 M12 => (bd (d_X9_of a1 (2 : Int32) M12) fun r15 M14 => (chk (0 : Int32) 366 (bd (d_X9_first r11 r13 (r15 + (1 : Int32)) ((M14 144 ((0 : Int32)).toNatClampNeg) + (60 : Int32)) a1 M14) fun r17 M16 => (if r17 = (-5 : Int32) then (bd (d_X9_puts a1 (3 : Int32) (4 : Int32) M16) fun r25 M24 => (d_X9_repair_B113 kx1 kb a1 a2 M24)) else (bd (d_X9_puts a1 (2 : Int32) r17 M16) fun r19 M18 => (bnd (a2 + (1)) fun v20 => (d_X9_repair_B113 kx1 kb a1 v20 M18)))))))))))
def d_X9_repair_L41 (kx1 : Int32 → Mem → Ans) : Nat → Int32 → Int32 → Mem → Ans
  | 0 => fun _ _ _ => none
  | n + 1 => fun a1 a2 M => d_X9_repair_L41_body kx1 (d_X9_repair_L41 kx1 n) a1 a2 M
def d_X9_repair (M : Mem) : Ans :=
  (d_X9_repair_L2 (fun M3 => (bd (d_X9_sick M3) fun r5 M4 => (if r5 = (-5 : Int32) then (some ((-5 : Int32), M4)) else (bd (d_X9_record M4) fun r7 M6 => (d_X9_repair_L41 (fun v26 M27 => (some (v26, M27))) fuelN r5 (0 : Int32) M6))))) fuelN (0 : Int32) M)
def d_X9_goes_L2_body (kx1 : Mem → Ans) (kb : Int32 → Mem → Ans) (a1 : Int32) (M : Mem) : Ans :=
  (if (366 : Int32) ≤ a1 then (kx1 M) else (chk a1 366 (chk a1 366 (bnd (mup M 147 (a1).toNatClampNeg (M 144 (a1).toNatClampNeg)) fun M1 => (bnd (a1 + (1)) fun v2 => (kb v2 M1))))))
def d_X9_goes_L2 (kx1 : Mem → Ans) : Nat → Int32 → Mem → Ans
  | 0 => fun _ _ => none
  | n + 1 => fun a1 M => d_X9_goes_L2_body kx1 (d_X9_goes_L2 kx1 n) a1 M
def d_X9_goes (M : Mem) : Ans :=
  (d_X9_goes_L2 (fun M3 => (some (0, M3))) fuelN (0 : Int32) M)
def d_X9_comes_L2_body (kx1 : Mem → Ans) (kb : Int32 → Mem → Ans) (a1 : Int32) (M : Mem) : Ans :=
  (if (366 : Int32) ≤ a1 then (kx1 M) else (chk a1 366 (chk a1 366 (bnd (mup M 144 (a1).toNatClampNeg (M 147 (a1).toNatClampNeg)) fun M1 => (bnd (a1 + (1)) fun v2 => (kb v2 M1))))))
def d_X9_comes_L2 (kx1 : Mem → Ans) : Nat → Int32 → Mem → Ans
  | 0 => fun _ _ => none
  | n + 1 => fun a1 M => d_X9_comes_L2_body kx1 (d_X9_comes_L2 kx1 n) a1 M
def d_X9_comes (M : Mem) : Ans :=
  (d_X9_comes_L2 (fun M3 => (some (0, M3))) fuelN (0 : Int32) M)
def d_X9_wish_B63 (a1 : Int32) (a2 : Int32) (a3 : Int32) (a4 : Int32) (M : Mem) : Ans :=
  (bd (d_X9_comes M) fun r12 M11 => (bd (d_X9_record M11) fun r14 M13 => (bd (d_X9_grants a1 a2 a3 M13) fun r16 M15 => (if r16 = (-5 : Int32) then (chk (6 : Int32) 366 (bnd ((342 : Int32) + ((3 : Int32) * (M15 144 ((6 : Int32)).toNatClampNeg))) fun v17 => (chk v17 366 (bnd (mup M15 144 (v17).toNatClampNeg a1) fun M18 => (chk (v17 + (1 : Int32)) 366 (bnd (mup M18 144 ((v17 + (1 : Int32))).toNatClampNeg a2) fun M19 => (chk (v17 + (2 : Int32)) 366 (bnd (mup M19 144 ((v17 + (2 : Int32))).toNatClampNeg a3) fun M20 => (chk (6 : Int32) 366 (chk (6 : Int32) 366 (bnd (mup M20 144 ((6 : Int32)).toNatClampNeg ((M20 144 ((6 : Int32)).toNatClampNeg) + (1 : Int32))) fun M21 => (chk (6 : Int32) 366 (some (((1000 : Int32) + (M21 144 ((6 : Int32)).toNatClampNeg)), M21)))))))))))))) else (some (a4, M15))))))
def d_X9_wish (p1 : Int32) (p2 : Int32) (p3 : Int32) (M : Mem) : Ans :=
  (bd (d_X9_noRobot p1 M) fun r2 M1 => (if r2 = 0 then (bd (d_X9_noRecipe p2 M1) fun r4 M3 => (if r4 = 0 then (bd (d_X9_isStart p3 M3) fun r6 M5 => (if r6 = 0 then (some ((-2 : Int32), M5)) else (bd (d_X9_goes M5) fun r8 M7 => (bd (d_X9_grants p1 p2 p3 M7) fun r10 M9 => (if r10 = (-5 : Int32) then (chk (6 : Int32) 366 (if (M9 144 ((6 : Int32)).toNatClampNeg) = (8 : Int32) then (some ((-3 : Int32), M9)) else (d_X9_wish_B63 p1 p2 p3 r10 M9))) else (d_X9_wish_B63 p1 p2 p3 r10 M9)))))) else (some ((-1 : Int32), M3)))) else (some ((-1 : Int32), M1))))
def d_X9_unwish (p1 : Int32) (M : Mem) : Ans :=
  (chk (6 : Int32) 366 (bd (d_X9_in p1 (0 : Int32) ((M 144 ((6 : Int32)).toNatClampNeg) - (1 : Int32)) M) fun r2 M1 => (if r2 = 0 then (some ((-1 : Int32), M1)) else (bd (d_X9_record M1) fun r4 M3 => (bd (d_X9_ofWish p1 (1 : Int32) M3) fun r6 M5 => (bd (d_X9_leaves p1 M5) fun r8 M7 => (some (r6, M7))))))))
def d_X9_draws_B163 (a3 : Int32) (s0 : Int32) (s1 : Int32) (s2 : Int32) (M : Mem) : Ans :=
  (bd (d_X9_puts s2 s1 s0 M) fun r25 M24 => (chk (0 : Int32) 366 (if (M24 144 ((0 : Int32)).toNatClampNeg) = a3 then (some ((1 : Int32), M24)) else (some ((0 : Int32), M24)))))
def d_X9_draws_B106 (a1 : Int32) (a3 : Int32) (s0 : Int32) (M : Mem) : Ans :=
  (chk (1 : Int32) 366 (chk (1 : Int32) 366 (bnd (mup M 144 ((1 : Int32)).toNatClampNeg ((M 144 ((1 : Int32)).toNatClampNeg) - s0)) fun M18 => (chk (9 : Int32) 366 (chk (9 : Int32) 366 (bnd (mup M18 144 ((9 : Int32)).toNatClampNeg ((M18 144 ((9 : Int32)).toNatClampNeg) + s0)) fun M19 => (bd (d_X9_of a1 (4 : Int32) M19) fun r21 M20 => (bd (d_X9_puts a1 (4 : Int32) (r21 + (1 : Int32)) M20) fun r23 M22 => (chk (0 : Int32) 366 (if (M22 144 ((0 : Int32)).toNatClampNeg) = a3 then (d_X9_draws_B163 a3 (2 : Int32) (3 : Int32) a1 M22) else (d_X9_draws_B163 a3 (1 : Int32) (3 : Int32) a1 M22)))))))))))
def d_X9_draws (p1 : Int32) (M : Mem) : Ans :=
  (bd (d_X9_of p1 (1 : Int32) M) fun r2 M1 => (bd (d_X9_of p1 (2 : Int32) M1) fun r4 M3 => (bd (d_X9_ofRecipe r2 (2 : Int32) M3) fun r6 M5 => (bnd ((r4 + r6) - (1 : Int32)) fun v7 => (bd (d_X9_isOpen p1 M5) fun r9 M8 => (if r9 = 0 then (some ((0 : Int32), M8)) else (chk (0 : Int32) 366 (bd (d_X9_of p1 (2 : Int32) M8) fun r11 M10 => (bd (d_X9_in (M8 144 ((0 : Int32)).toNatClampNeg) r11 v7 M10) fun r13 M12 => (if r13 = 0 then (some ((0 : Int32), M12)) else (chk (1 : Int32) 366 (bd (d_X9_ofRecipe r2 (0 : Int32) M12) fun r15 M14 => (if r15 ≤ (M12 144 ((1 : Int32)).toNatClampNeg) then (bd (d_X9_ofRecipe r2 (1 : Int32) M14) fun r17 M16 => (chk (1 : Int32) 366 (if r17 ≤ (M16 144 ((1 : Int32)).toNatClampNeg) then (d_X9_draws_B106 p1 v7 r17 M16) else (chk (1 : Int32) 366 (d_X9_draws_B106 p1 v7 (M16 144 ((1 : Int32)).toNatClampNeg) M16))))) else (bd (d_X9_puts p1 (3 : Int32) (3 : Int32) M14) fun r27 M26 => (some ((0 : Int32), M26))))))))))))))))
def d_X9_aTick_B89 (kx1 : Int32 → Mem → Ans) (kb : Int32 → Int32 → Mem → Ans) (a2 : Int32) (s0 : Int32) (s1 : Int32) (M : Mem) : Ans :=
  (bnd (s1 + s0) fun v6 => (bnd (a2 + (1)) fun v7 => (kb v6 v7 M)))
def d_X9_aTick_L65_body (kx1 : Int32 → Mem → Ans) (kb : Int32 → Int32 → Mem → Ans) (a1 : Int32) (a2 : Int32) (M : Mem) : Ans :=
  (chk (5 : Int32) 366 (if (M 144 ((5 : Int32)).toNatClampNeg) ≤ a2 then (kx1 a1 M) else (bd (d_X9_draws a2 M) fun r5 M4 => (if r5 = 0 then (d_X9_aTick_B89 kx1 kb a2 (0 : Int32) a1 M4) else (d_X9_aTick_B89 kx1 kb a2 (1 : Int32) a1 M4)))))
def d_X9_aTick_L65 (kx1 : Int32 → Mem → Ans) : Nat → Int32 → Int32 → Mem → Ans
  | 0 => fun _ _ _ => none
  | n + 1 => fun a1 a2 M => d_X9_aTick_L65_body kx1 (d_X9_aTick_L65 kx1 n) a1 a2 M
def d_X9_aTick_L99_body (a1 : Int32) (kx1 : Mem → Ans) (kb : Int32 → Mem → Ans) (a2 : Int32) (M : Mem) : Ans :=
  (chk (6 : Int32) 366 (if (M 144 ((6 : Int32)).toNatClampNeg) ≤ a2 then (kx1 M) else (bd (d_X9_ofWish a2 (2 : Int32) M) fun r11 M10 => (chk (0 : Int32) 366 (if (M10 144 ((0 : Int32)).toNatClampNeg) < (r11 + (20 : Int32)) then (bnd (a2 + (1)) fun v12 => (kb v12 M10)) else (bd (d_X9_leaves a2 M10) fun r14 M13 => (chk (8 : Int32) 366 (chk (8 : Int32) 366 (bnd (mup M13 144 ((8 : Int32)).toNatClampNeg ((M13 144 ((8 : Int32)).toNatClampNeg) + (1 : Int32))) fun M15 => (kb a2 M15))))))))))
def d_X9_aTick_L99 (a1 : Int32) (kx1 : Mem → Ans) : Nat → Int32 → Mem → Ans
  | 0 => fun _ _ => none
  | n + 1 => fun a2 M => d_X9_aTick_L99_body a1 kx1 (d_X9_aTick_L99 a1 kx1 n) a2 M
def d_X9_aTick_B60 (s0 : Int32) (s1 : Int32) (M : Mem) : Ans :=
  (chk s1 366 (bnd (mup M 144 (s1).toNatClampNeg s0) fun M3 => (d_X9_aTick_L65 (fun v8 M9 => (d_X9_aTick_L99 v8 (fun M16 => (some (v8, M16))) fuelN (0 : Int32) M9)) fuelN (0 : Int32) (0 : Int32) M3)))
def d_X9_aTick (M : Mem) : Ans :=
  (chk (0 : Int32) 366 (chk (0 : Int32) 366 (bnd (mup M 144 ((0 : Int32)).toNatClampNeg ((M 144 ((0 : Int32)).toNatClampNeg) + (1 : Int32))) fun M1 => (chk (1 : Int32) 366 (chk (3 : Int32) 366 (chk (1 : Int32) 366 (bnd (mup M1 144 ((1 : Int32)).toNatClampNeg ((M1 144 ((1 : Int32)).toNatClampNeg) + (M1 144 ((3 : Int32)).toNatClampNeg))) fun M2 => (chk (1 : Int32) 366 (chk (2 : Int32) 366 (if (M2 144 ((1 : Int32)).toNatClampNeg) ≤ (M2 144 ((2 : Int32)).toNatClampNeg) then (chk (1 : Int32) 366 (d_X9_aTick_B60 (M2 144 ((1 : Int32)).toNatClampNeg) (1 : Int32) M2)) else (chk (2 : Int32) 366 (d_X9_aTick_B60 (M2 144 ((2 : Int32)).toNatClampNeg) (1 : Int32) M2))))))))))))
def d_X9_pass_L39_body (a1 : Int32) (kx1 : Int32 → Mem → Ans) (kb : Int32 → Int32 → Mem → Ans) (a2 : Int32) (a3 : Int32) (M : Mem) : Ans :=
  (if a1 ≤ a3 then (kx1 a2 M) else (bd (d_X9_aTick M) fun r6 M5 => (bnd (a2 + r6) fun v7 => (bnd (a3 + (1)) fun v8 => (kb v7 v8 M5)))))
def d_X9_pass_L39 (a1 : Int32) (kx1 : Int32 → Mem → Ans) : Nat → Int32 → Int32 → Mem → Ans
  | 0 => fun _ _ _ => none
  | n + 1 => fun a2 a3 M => d_X9_pass_L39_body a1 kx1 (d_X9_pass_L39 a1 kx1 n) a2 a3 M
def d_X9_pass (p1 : Int32) (M : Mem) : Ans :=
  (bd (d_X9_in p1 (1 : Int32) (200 : Int32) M) fun r2 M1 => (if r2 = 0 then (some ((-2 : Int32), M1)) else (chk (0 : Int32) 366 (if ((M1 144 ((0 : Int32)).toNatClampNeg) + p1) ≤ (9000 : Int32) then (bd (d_X9_record M1) fun r4 M3 => (d_X9_pass_L39 p1 (fun v9 M10 => (some (v9, M10))) fuelN (0 : Int32) (0 : Int32) M3)) else (some ((-4 : Int32), M1))))))
def d_X9_type (p1 : Int32) (M : Mem) : Ans :=
  (if (M 143 18) = (60 : Int32) then (some ((-3 : Int32), M)) else (chk (M 143 18) 60 (bnd (mup M 153 ((M 143 18)).toNatClampNeg (vp_nar .char p1)) fun M1 => (bnd (mup M1 143 18 ((M1 143 18) + (1 : Int32))) fun M2 => (some ((M2 143 18), M2))))))
def d_X9_clearText (M : Mem) : Ans :=
  (bnd (mup M 143 18 (0 : Int32)) fun M1 => (some ((M 143 18), M1)))
def d_X9_isDigit (M : Mem) : Ans :=
  (if (M 143 18) ≤ (M 143 20) then (some ((0 : Int32), M)) else (chk (M 143 20) 60 (bd (d_X9_in (M 153 ((M 143 20)).toNatClampNeg) (48 : Int32) (57 : Int32) M) fun r2 M1 => (if r2 = 0 then (some ((0 : Int32), M1)) else (some ((1 : Int32), M1))))))
def d_X9_takes (p1 : Int32) (M : Mem) : Ans :=
  (if (M 143 20) = (M 143 18) then (some ((0 : Int32), M)) else (chk (M 143 20) 60 (if (M 153 ((M 143 20)).toNatClampNeg) = p1 then (bnd (mup M 143 20 ((M 143 20) + (1 : Int32))) fun M1 => (some ((1 : Int32), M1))) else (some ((0 : Int32), M)))))
def d_X9_takesNumber_L37_body (a1 : Int32) (kx1 : Mem → Ans) (kb : Int32 → Mem → Ans) (a2 : Int32) (M : Mem) : Ans :=
  (if a1 ≤ a2 then (kx1 M) else (if (M 143 21) ≤ 0 then (kx1 M) else (bd (d_X9_isDigit M) fun r6 M5 => (if r6 = 0 then (kx1 M5) else (chk (M5 143 20) 60 (bnd (mup M5 143 21 ((((10 : Int32) * (M5 143 21)) + (M5 153 ((M5 143 20)).toNatClampNeg)) - (48 : Int32))) fun M7 => (bnd (mup M7 143 20 ((M7 143 20) + (1 : Int32))) fun M8 => (bnd (a2 + (1)) fun v9 => (kb v9 M8)))))))))
def d_X9_takesNumber_L37 (a1 : Int32) (kx1 : Mem → Ans) : Nat → Int32 → Mem → Ans
  | 0 => fun _ _ => none
  | n + 1 => fun a2 M => d_X9_takesNumber_L37_body a1 kx1 (d_X9_takesNumber_L37 a1 kx1 n) a2 M
def d_X9_takesNumber (p1 : Int32) (M : Mem) : Ans :=
  (bd (d_X9_isDigit M) fun r2 M1 => (if r2 = 0 then (some ((0 : Int32), M1)) else (chk (M1 143 20) 60 (bnd (mup M1 143 21 ((M1 153 ((M1 143 20)).toNatClampNeg) - (48 : Int32))) fun M3 => (bnd (mup M3 143 20 ((M3 143 20) + (1 : Int32))) fun M4 => (d_X9_takesNumber_L37 p1 (fun M10 => (some ((1 : Int32), M10))) fuelN (1 : Int32) M4))))))
def d_X9_takesBooking (M : Mem) : Ans :=
  (bd (d_X9_takesNumber (1 : Int32) M) fun r2 M1 => (if r2 = 0 then (some ((0 : Int32), M1)) else (bnd (mup M1 143 22 (M1 143 21)) fun M3 => (bd (d_X9_takes (58 : Int32) M3) fun r5 M4 => (if r5 = 0 then (some ((0 : Int32), M4)) else (bd (d_X9_takesNumber (1 : Int32) M4) fun r7 M6 => (if r7 = 0 then (some ((0 : Int32), M6)) else (bnd (mup M6 143 23 (M6 143 21)) fun M8 => (bd (d_X9_takes (64 : Int32) M8) fun r10 M9 => (if r10 = 0 then (some ((0 : Int32), M9)) else (bd (d_X9_takesNumber (4 : Int32) M9) fun r12 M11 => (if r12 = 0 then (some ((0 : Int32), M11)) else (some ((1 : Int32), M11))))))))))))))
def d_X9_bookingsOfText_B42 (kx1 : Int32 → Mem → Ans) (kb : Int32 → Int32 → Mem → Ans) (a1 : Int32) (s0 : Int32) (M : Mem) : Ans :=
  (if s0 = 0 then (kb a1 s0 M) else (bd (d_X9_takes (44 : Int32) M) fun r6 M5 => (if r6 = 0 then (some ((-5 : Int32), M5)) else (kb a1 s0 M5))))
def d_X9_bookingsOfText_L9_body (kx1 : Int32 → Mem → Ans) (kb : Int32 → Int32 → Mem → Ans) (a1 : Int32) (a2 : Int32) (M : Mem) : Ans :=
  (if a2 = 0 then (kx1 a1 M) else (bd (d_X9_takesBooking M) fun r3 M2 => (if r3 = 0 then (some ((-5 : Int32), M2)) else (bnd (a1 + (1)) fun v4 => (if (M2 143 18) ≤ (M2 143 20) then (d_X9_bookingsOfText_B42 kx1 kb v4 (0 : Int32) M2) else (d_X9_bookingsOfText_B42 kx1 kb v4 (1 : Int32) M2))))))
def d_X9_bookingsOfText_L9 (kx1 : Int32 → Mem → Ans) : Nat → Int32 → Int32 → Mem → Ans
  | 0 => fun _ _ _ => none
  | n + 1 => fun a1 a2 M => d_X9_bookingsOfText_L9_body kx1 (d_X9_bookingsOfText_L9 kx1 n) a1 a2 M
def d_X9_bookingsOfText (M : Mem) : Ans :=
  (bnd (mup M 143 20 (0 : Int32)) fun M1 => (d_X9_bookingsOfText_L9 (fun v7 M8 => (some (v7, M8))) fuelN (0 : Int32) (1 : Int32) M1))
def d_X9_trades_L2_body (kx1 : Mem → Ans) (kb : Int32 → Mem → Ans) (a1 : Int32) (M : Mem) : Ans :=
  (if (366 : Int32) ≤ a1 then (kx1 M) else (chk a1 366 (bnd (M 144 (a1).toNatClampNeg) fun v1 => (chk a1 366 (chk a1 366 (bnd (mup M 144 (a1).toNatClampNeg (M 147 (a1).toNatClampNeg)) fun M2 => (chk a1 366 (bnd (mup M2 147 (a1).toNatClampNeg v1) fun M3 => (bnd (a1 + (1)) fun v4 => (kb v4 M3))))))))))
def d_X9_trades_L2 (kx1 : Mem → Ans) : Nat → Int32 → Mem → Ans
  | 0 => fun _ _ => none
  | n + 1 => fun a1 M => d_X9_trades_L2_body kx1 (d_X9_trades_L2 kx1 n) a1 M
def d_X9_trades (M : Mem) : Ans :=
  (d_X9_trades_L2 (fun M5 => (some (0, M5))) fuelN (0 : Int32) M)
def d_X9_bookAll_L30_body (a1 : Int32) (kx1 : Mem → Ans) (kb : Int32 → Mem → Ans) (a2 : Int32) (M : Mem) : Ans :=
  (if a1 ≤ a2 then (kx1 M) else (bd (d_X9_takesBooking M) fun r7 M6 => (bnd (mup M6 143 20 ((M6 143 20) + (1 : Int32))) fun M8 => (bd (d_X9_wrong (M8 143 22) (M8 143 23) (M8 143 21) M8) fun r10 M9 => (if r10 = 0 then (bd (d_X9_adds (M9 143 22) (M9 143 23) (M9 143 21) M9) fun r12 M11 => (bnd (a2 + (1)) fun v13 => (kb v13 M11))) else (bd (d_X9_comes M9) fun r15 M14 => (some (r10, M14))))))))
def d_X9_bookAll_L30 (a1 : Int32) (kx1 : Mem → Ans) : Nat → Int32 → Mem → Ans
  | 0 => fun _ _ => none
  | n + 1 => fun a2 M => d_X9_bookAll_L30_body a1 kx1 (d_X9_bookAll_L30 a1 kx1 n) a2 M
def d_X9_bookAll (M : Mem) : Ans :=
  (bd (d_X9_bookingsOfText M) fun r2 M1 => (if r2 = (-5 : Int32) then (some (((-100 : Int32) - (M1 143 20)), M1)) else (bd (d_X9_goes M1) fun r4 M3 => (bnd (mup M3 143 20 (0 : Int32)) fun M5 => (d_X9_bookAll_L30 r2 (fun M16 => (bd (d_X9_trades M16) fun r18 M17 => (bd (d_X9_record M17) fun r20 M19 => (bd (d_X9_trades M19) fun r22 M21 => (some (r2, M21)))))) fuelN (0 : Int32) M5)))))
def d_X9_undo_L22_body (kx1 : Mem → Ans) (kb : Int32 → Mem → Ans) (a1 : Int32) (M : Mem) : Ans :=
  (if (366 : Int32) ≤ a1 then (kx1 M) else (chk (((366 : Int32) * (M 143 2)) + a1) 1464 (chk a1 366 (bnd (mup M 144 (a1).toNatClampNeg (M 145 ((((366 : Int32) * (M 143 2)) + a1)).toNatClampNeg)) fun M2 => (bnd (a1 + (1)) fun v3 => (kb v3 M2))))))
def d_X9_undo_L22 (kx1 : Mem → Ans) : Nat → Int32 → Mem → Ans
  | 0 => fun _ _ => none
  | n + 1 => fun a1 M => d_X9_undo_L22_body kx1 (d_X9_undo_L22 kx1 n) a1 M
def d_X9_undo (M : Mem) : Ans :=
  (if (M 143 2) = 0 then (some ((-5 : Int32), M)) else (bnd (mup M 143 2 ((M 143 2) - (1 : Int32))) fun M1 => (d_X9_undo_L22 (fun M4 => (some ((M4 143 2), M4))) fuelN (0 : Int32) M1)))
def d_X9_keep_L2_body (kx1 : Mem → Ans) (kb : Int32 → Mem → Ans) (a1 : Int32) (M : Mem) : Ans :=
  (if (366 : Int32) ≤ a1 then (kx1 M) else (chk a1 366 (chk a1 366 (bnd (mup M 146 (a1).toNatClampNeg (M 144 (a1).toNatClampNeg)) fun M1 => (bnd (a1 + (1)) fun v2 => (kb v2 M1))))))
def d_X9_keep_L2 (kx1 : Mem → Ans) : Nat → Int32 → Mem → Ans
  | 0 => fun _ _ => none
  | n + 1 => fun a1 M => d_X9_keep_L2_body kx1 (d_X9_keep_L2 kx1 n) a1 M
def d_X9_keep (M : Mem) : Ans :=
  (d_X9_keep_L2 (fun M3 => (bnd (mup M3 143 4 (1 : Int32)) fun M4 => (chk (0 : Int32) 366 (some ((M4 144 ((0 : Int32)).toNatClampNeg), M4))))) fuelN (0 : Int32) M)
def d_X9_restore_L16_body (kx1 : Mem → Ans) (kb : Int32 → Mem → Ans) (a1 : Int32) (M : Mem) : Ans :=
  (if (366 : Int32) ≤ a1 then (kx1 M) else (chk a1 366 (chk a1 366 (bnd (mup M 144 (a1).toNatClampNeg (M 146 (a1).toNatClampNeg)) fun M3 => (bnd (a1 + (1)) fun v4 => (kb v4 M3))))))
def d_X9_restore_L16 (kx1 : Mem → Ans) : Nat → Int32 → Mem → Ans
  | 0 => fun _ _ => none
  | n + 1 => fun a1 M => d_X9_restore_L16_body kx1 (d_X9_restore_L16 kx1 n) a1 M
def d_X9_restore (M : Mem) : Ans :=
  (if (M 143 4) = 0 then (some ((-5 : Int32), M)) else (bd (d_X9_record M) fun r2 M1 => (d_X9_restore_L16 (fun M5 => (chk (0 : Int32) 366 (some ((M5 144 ((0 : Int32)).toNatClampNeg), M5)))) fuelN (0 : Int32) M1)))
def d_X9_bookings_B70 (kx1 : Int32 → Mem → Ans) (kb : Int32 → Int32 → Mem → Ans) (a1 : Int32) (a2 : Int32) (a3 : Int32) (a4 : Int32) (a6 : Int32) (s0 : Int32) (s1 : Int32) (M : Mem) : Ans :=
  (bnd (s1 + s0) fun v5 => (bnd (a6 + (1)) fun v6 => (kb v5 v6 M)))
def d_X9_bookings_B69 (kx1 : Int32 → Mem → Ans) (kb : Int32 → Int32 → Mem → Ans) (a1 : Int32) (a2 : Int32) (a3 : Int32) (a4 : Int32) (a6 : Int32) (s0 : Int32) (M : Mem) : Ans :=
  (d_X9_bookings_B70 kx1 kb a1 a2 a3 a4 a6 (0 : Int32) s0 M)
def d_X9_bookings_B49 (kx1 : Int32 → Mem → Ans) (kb : Int32 → Int32 → Mem → Ans) (a1 : Int32) (a2 : Int32) (a3 : Int32) (a4 : Int32) (a6 : Int32) (s0 : Int32) (M : Mem) : Ans :=
  (bd (d_X9_of a6 (3 : Int32) M) fun r2 M1 => (bd (d_X9_in r2 a3 a4 M1) fun r4 M3 => (if r4 = 0 then (d_X9_bookings_B69 kx1 kb a1 a2 a3 a4 a6 s0 M3) else (d_X9_bookings_B70 kx1 kb a1 a2 a3 a4 a6 (1 : Int32) s0 M3))))
def d_X9_bookings_B34 (kx1 : Int32 → Mem → Ans) (kb : Int32 → Int32 → Mem → Ans) (a1 : Int32) (a2 : Int32) (a3 : Int32) (a4 : Int32) (a6 : Int32) (s0 : Int32) (M : Mem) : Ans :=
  (if a2 < 0 then (d_X9_bookings_B49 kx1 kb a1 a2 a3 a4 a6 s0 M) else (bd (d_X9_of a6 (1 : Int32) M) fun r8 M7 => (if r8 = a2 then (d_X9_bookings_B49 kx1 kb a1 a2 a3 a4 a6 s0 M7) else (d_X9_bookings_B69 kx1 kb a1 a2 a3 a4 a6 s0 M7))))
def d_X9_bookings_L6_body (a1 : Int32) (a2 : Int32) (a3 : Int32) (a4 : Int32) (kx1 : Int32 → Mem → Ans) (kb : Int32 → Int32 → Mem → Ans) (a5 : Int32) (a6 : Int32) (M : Mem) : Ans :=
  (chk (5 : Int32) 366 (if (M 144 ((5 : Int32)).toNatClampNeg) ≤ a6 then (kx1 a5 M) else (if a1 < 0 then (d_X9_bookings_B34 kx1 kb a1 a2 a3 a4 a6 a5 M) else (bd (d_X9_of a6 (0 : Int32) M) fun r10 M9 => (if r10 = a1 then (d_X9_bookings_B34 kx1 kb a1 a2 a3 a4 a6 a5 M9) else (d_X9_bookings_B69 kx1 kb a1 a2 a3 a4 a6 a5 M9))))))
def d_X9_bookings_L6 (a1 : Int32) (a2 : Int32) (a3 : Int32) (a4 : Int32) (kx1 : Int32 → Mem → Ans) : Nat → Int32 → Int32 → Mem → Ans
  | 0 => fun _ _ _ => none
  | n + 1 => fun a5 a6 M => d_X9_bookings_L6_body a1 a2 a3 a4 kx1 (d_X9_bookings_L6 a1 a2 a3 a4 kx1 n) a5 a6 M
def d_X9_bookings (p1 : Int32) (p2 : Int32) (p3 : Int32) (p4 : Int32) (M : Mem) : Ans :=
  (d_X9_bookings_L6 p1 p2 p3 p4 (fun v11 M12 => (some (v11, M12))) fuelN (0 : Int32) (0 : Int32) M)
def d_X9_recipe (p1 : Int32) (p2 : Int32) (M : Mem) : Ans :=
  (bd (d_X9_noRecipe p1 M) fun r2 M1 => (if r2 = 0 then (bd (d_X9_in p2 (0 : Int32) (3 : Int32) M1) fun r4 M3 => (if r4 = 0 then (if p2 = (4 : Int32) then (bd (d_X9_bookings (-1 : Int32) p1 (2 : Int32) (2 : Int32) M3) fun r6 M5 => (some (r6, M5))) else (some ((-2 : Int32), M3))) else (bd (d_X9_ofRecipe p1 p2 M3) fun r8 M7 => (some (r8, M7))))) else (some ((-1 : Int32), M1))))
def d_X9_robot_L85_body (a1 : Int32) (kx1 : Int32 → Mem → Ans) (kb : Int32 → Mem → Ans) (a3 : Int32) (M : Mem) : Ans :=
  (bd (d_X9_keeper a1 a3 a3 (-1 : Int32) M) fun r14 M13 => (if r14 = (-5 : Int32) then (kx1 a3 M13) else (bnd (a3 + (1)) fun v15 => (kb v15 M13))))
def d_X9_robot_L85 (a1 : Int32) (kx1 : Int32 → Mem → Ans) : Nat → Int32 → Mem → Ans
  | 0 => fun _ _ => none
  | n + 1 => fun a3 M => d_X9_robot_L85_body a1 kx1 (d_X9_robot_L85 a1 kx1 n) a3 M
def d_X9_robot (p1 : Int32) (p2 : Int32) (M : Mem) : Ans :=
  (bd (d_X9_noRobot p1 M) fun r2 M1 => (if r2 = 0 then (chk (0 : Int32) 366 (bnd (M1 144 ((0 : Int32)).toNatClampNeg) fun v3 => (if p2 = (0) then (bd (d_X9_bookings p1 (-1 : Int32) (0 : Int32) (1 : Int32) M1) fun r5 M4 => (some (r5, M4))) else (if p2 = (1) then (bd (d_X9_bookings p1 (-1 : Int32) (2 : Int32) (2 : Int32) M1) fun r8 M7 => (some (r8, M7))) else (if p2 = (2) then (bd (d_X9_keeper p1 v3 v3 (-1 : Int32) M1) fun r11 M10 => (if r11 = (-5 : Int32) then (some ((0 : Int32), M10)) else (some ((1 : Int32), M10)))) else (if p2 = (3) then (d_X9_robot_L85 p1 (fun v16 M17 => (some (v16, M17))) fuelN v3 M1) else (some ((-2 : Int32), M1)))))))) else (some ((-1 : Int32), M1))))
def d_X9_booking (p1 : Int32) (p2 : Int32) (M : Mem) : Ans :=
  (bd (d_X9_noBooking p1 M) fun r2 M1 => (if r2 = 0 then (bd (d_X9_in p2 (0 : Int32) (4 : Int32) M1) fun r4 M3 => (if r4 = 0 then (bd (d_X9_forecast M3) fun r6 M5 => (if p2 = (5) then (chk p1 61 (some ((M5 148 (p1).toNatClampNeg), M5))) else (if p2 = (6) then (chk p1 61 (if (M5 149 (p1).toNatClampNeg) ≤ 0 then (some ((-5 : Int32), M5)) else (chk p1 61 (some ((M5 149 (p1).toNatClampNeg), M5))))) else (if p2 = (7) then (bd (d_X9_isOpen p1 M5) fun r10 M9 => (if r10 = 0 then (some ((-5 : Int32), M9)) else (chk p1 61 (some (((10000 : Int32) + (M9 150 (p1).toNatClampNeg)), M9))))) else (some ((-2 : Int32), M5)))))) else (bd (d_X9_of p1 p2 M3) fun r13 M12 => (some (r13, M12))))) else (some ((-1 : Int32), M1))))
def d_X9_wishTold (p1 : Int32) (p2 : Int32) (M : Mem) : Ans :=
  (chk (6 : Int32) 366 (bd (d_X9_in p1 (0 : Int32) ((M 144 ((6 : Int32)).toNatClampNeg) - (1 : Int32)) M) fun r2 M1 => (if r2 = 0 then (some ((-1 : Int32), M1)) else (bd (d_X9_in p2 (0 : Int32) (2 : Int32) M1) fun r4 M3 => (if r4 = 0 then (if p2 = (3 : Int32) then (bd (d_X9_bases (-1 : Int32) M3) fun r6 M5 => (bd (d_X9_ofWish p1 (0 : Int32) M5) fun r8 M7 => (bd (d_X9_ofWish p1 (1 : Int32) M7) fun r10 M9 => (bd (d_X9_ofWish p1 (2 : Int32) M9) fun r12 M11 => (bd (d_X9_ofWish p1 (2 : Int32) M11) fun r14 M13 => (bd (d_X9_first r8 r10 r12 (r14 + (20 : Int32)) (-1 : Int32) M13) fun r16 M15 => (some (r16, M15)))))))) else (some ((-2 : Int32), M3))) else (bd (d_X9_ofWish p1 p2 M3) fun r18 M17 => (some (r18, M17))))))))
def d_X9_pressureIn_L20_body (a1 : Int32) (kx1 : Mem → Ans) (kb : Int32 → Mem → Ans) (a2 : Int32) (M : Mem) : Ans :=
  (if a1 < a2 then (kx1 M) else (chk (0 : Int32) 366 (bd (d_X9_foresees ((M 144 ((0 : Int32)).toNatClampNeg) + a2) M) fun r6 M5 => (bnd (a2 + (1)) fun v7 => (kb v7 M5)))))
def d_X9_pressureIn_L20 (a1 : Int32) (kx1 : Mem → Ans) : Nat → Int32 → Mem → Ans
  | 0 => fun _ _ => none
  | n + 1 => fun a2 M => d_X9_pressureIn_L20_body a1 kx1 (d_X9_pressureIn_L20 a1 kx1 n) a2 M
def d_X9_pressureIn (p1 : Int32) (M : Mem) : Ans :=
  (bd (d_X9_in p1 (0 : Int32) (200 : Int32) M) fun r2 M1 => (if r2 = 0 then (some ((-2 : Int32), M1)) else (bd (d_X9_begins M1) fun r4 M3 => (d_X9_pressureIn_L20 p1 (fun M8 => (some ((M8 143 10), M8))) fuelN (1 : Int32) M3))))
def d_X9_lowestIn_B56 (kx1 : Int32 → Mem → Ans) (kb : Int32 → Int32 → Mem → Ans) (a1 : Int32) (a3 : Int32) (s0 : Int32) (M : Mem) : Ans :=
  (bnd (a3 + (1)) fun v7 => (kb s0 v7 M))
def d_X9_lowestIn_L23_body (a1 : Int32) (kx1 : Int32 → Mem → Ans) (kb : Int32 → Int32 → Mem → Ans) (a2 : Int32) (a3 : Int32) (M : Mem) : Ans :=
  (if a1 < a3 then (kx1 a2 M) else (chk (0 : Int32) 366 (bd (d_X9_foresees ((M 144 ((0 : Int32)).toNatClampNeg) + a3) M) fun r6 M5 => (if a2 ≤ (M5 143 10) then (d_X9_lowestIn_B56 kx1 kb a1 a3 a2 M5) else (d_X9_lowestIn_B56 kx1 kb a1 a3 (M5 143 10) M5)))))
def d_X9_lowestIn_L23 (a1 : Int32) (kx1 : Int32 → Mem → Ans) : Nat → Int32 → Int32 → Mem → Ans
  | 0 => fun _ _ _ => none
  | n + 1 => fun a2 a3 M => d_X9_lowestIn_L23_body a1 kx1 (d_X9_lowestIn_L23 a1 kx1 n) a2 a3 M
def d_X9_lowestIn (p1 : Int32) (M : Mem) : Ans :=
  (bd (d_X9_in p1 (1 : Int32) (200 : Int32) M) fun r2 M1 => (if r2 = 0 then (some ((-2 : Int32), M1)) else (bd (d_X9_begins M1) fun r4 M3 => (d_X9_lowestIn_L23 p1 (fun v8 M9 => (some (v8, M9))) fuelN (99999 : Int32) (1 : Int32) M3))))
def d_X9_why (p1 : Int32) (p2 : Int32) (p3 : Int32) (p4 : Int32) (M : Mem) : Ans :=
  (bd (d_X9_noRobot p1 M) fun r2 M1 => (if r2 = 0 then (bd (d_X9_noRecipe p2 M1) fun r4 M3 => (if r4 = 0 then (bd (d_X9_isStart p3 M3) fun r6 M5 => (if r6 = 0 then (some ((-2 : Int32), M5)) else (bd (d_X9_in p4 (0 : Int32) (2 : Int32) M5) fun r8 M7 => (if r8 = 0 then (some ((-2 : Int32), M7)) else (bd (d_X9_bases (-1 : Int32) M7) fun r10 M9 => (bd (d_X9_reason p1 p2 p3 (-1 : Int32) M9) fun r12 M11 => (if p4 = 0 then (some (r12, M11)) else (if r12 = (1 : Int32) then (if p4 = (1 : Int32) then (bd (d_X9_last p2 p3 M11) fun r14 M13 => (bd (d_X9_keeper p1 p3 r14 (-1 : Int32) M13) fun r16 M15 => (some (r16, M15)))) else (some ((-5 : Int32), M11))) else (if r12 = (2 : Int32) then (if p4 = (2 : Int32) then (chk (60 : Int32) 61 (some ((M11 149 ((60 : Int32)).toNatClampNeg), M11))) else (some ((-5 : Int32), M11))) else (if r12 = 0 then (some ((-5 : Int32), M11)) else (if p4 = (1 : Int32) then (some ((M11 143 16), M11)) else (chk (M11 143 16) 61 (some ((M11 149 ((M11 143 16)).toNatClampNeg), M11)))))))))))))) else (some ((-1 : Int32), M3)))) else (some ((-1 : Int32), M1))))
def d_X9_earliest (p1 : Int32) (p2 : Int32) (p3 : Int32) (M : Mem) : Ans :=
  (bd (d_X9_noRobot p1 M) fun r2 M1 => (if r2 = 0 then (bd (d_X9_noRecipe p2 M1) fun r4 M3 => (if r4 = 0 then (bd (d_X9_isStart p3 M3) fun r6 M5 => (if r6 = 0 then (some ((-2 : Int32), M5)) else (bd (d_X9_bases (-1 : Int32) M5) fun r8 M7 => (chk (0 : Int32) 366 (bd (d_X9_first p1 p2 p3 ((M7 144 ((0 : Int32)).toNatClampNeg) + (60 : Int32)) (-1 : Int32) M7) fun r10 M9 => (some (r10, M9))))))) else (some ((-1 : Int32), M3)))) else (some ((-1 : Int32), M1))))
def d_X9_count_B130 (a1 : Int32) (M : Mem) : Ans :=
  (bd (d_X9_bookings (-1 : Int32) (-1 : Int32) (a1 - (6 : Int32)) (a1 - (6 : Int32)) M) fun r8 M7 => (some (r8, M7)))
def d_X9_count (p1 : Int32) (M : Mem) : Ans :=
  (if p1 = (0) then (chk (0 : Int32) 366 (some ((M 144 ((0 : Int32)).toNatClampNeg), M))) else (if p1 = (1) then (chk (1 : Int32) 366 (some ((M 144 ((1 : Int32)).toNatClampNeg), M))) else (if p1 = (2) then (chk (2 : Int32) 366 (some ((M 144 ((2 : Int32)).toNatClampNeg), M))) else (if p1 = (3) then (chk (3 : Int32) 366 (some ((M 144 ((3 : Int32)).toNatClampNeg), M))) else (if p1 = (4) then (chk (4 : Int32) 366 (some ((M 144 ((4 : Int32)).toNatClampNeg), M))) else (if p1 = (5) then (chk (5 : Int32) 366 (some ((M 144 ((5 : Int32)).toNatClampNeg), M))) else (if p1 = (6) then (d_X9_count_B130 p1 M) else (if p1 = (7) then (d_X9_count_B130 p1 M) else (if p1 = (8) then (d_X9_count_B130 p1 M) else (if p1 = (9) then (d_X9_count_B130 p1 M) else (if p1 = (10) then (d_X9_count_B130 p1 M) else (if p1 = (11) then (bd (d_X9_doomed M) fun r15 M14 => (some (r15, M14))) else (if p1 = (12) then (chk (6 : Int32) 366 (some ((M 144 ((6 : Int32)).toNatClampNeg), M))) else (if p1 = (13) then (chk (7 : Int32) 366 (some ((M 144 ((7 : Int32)).toNatClampNeg), M))) else (if p1 = (14) then (chk (8 : Int32) 366 (some ((M 144 ((8 : Int32)).toNatClampNeg), M))) else (if p1 = (15) then (chk (9 : Int32) 366 (some ((M 144 ((9 : Int32)).toNatClampNeg), M))) else (if p1 = (16) then (some ((M 143 2), M)) else (if p1 = (17) then (some ((M 143 18), M)) else (some ((-2 : Int32), M))))))))))))))))))))
