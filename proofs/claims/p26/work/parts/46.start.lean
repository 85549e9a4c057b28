def pt (i : Nat) : Nat := if i < 48 then i + 1 else if i < 112 then i + 3 else if i < 122 then i + 8 else if i < 132 then i + 9 else if i < 133 then 130 else if i < 134 then 141 else if i < 136 then i - 85 else if i < 141 then i - 21 else if i < 142 then 0 else i
def adr (b1 b2 : Nat → Nat) (i : Nat) : Nat := if pt i < 143 then b1 (pt i) else b2 (pt i - 143)
def M0 : Mem := fun i => if i = 144 then (upd (upd (upd (fun _ => 0) 1 900) 2 1500) 3 20) else if i = 135 then (fun j => nI (3 + j)) else if i = 143 then (fun j => if j = 11 then -1 else if j = 13 then -1 else if j = 14 then -1 else 0) else if i < 112 ∧ i % 16 = 0 then (fun j => if j = 1 then 900 else if j = 2 then 1500 else if j = 3 then 20 else 0) else fun _ => 0
def L0 (y : Cy) (b1 b2 : Nat → Nat) : va_W := wX8 y b1 ++ wX9 y b2
def pu (p : Nat) : Nat := if p < 1 then 141 else if p < 49 then p - 1 else if p < 51 then p + 85 else if p < 115 then p - 3 else if p < 120 then p + 21 else if p < 130 then p - 8 else if p < 131 then 132 else if p < 141 then p - 9 else if p < 142 then 133 else p
theorem pt_inv : ∀ i, i < 154 → pu (pt i) = i := by decide +kernel
theorem pt_inj : ∀ i, i < 154 → ∀ j, j < 154 → pt i = pt j → i = j := fun i hi j hj h => by rw [← pt_inv i hi, ← pt_inv j hj, h]
theorem arr_ext {cI : ClassId} {N : Nat} {f g : Nat → Value} (h : ∀ j, j < N → f j = g j) : arrV cI N f = arrV cI N g := by
  unfold arrV
  congr 1
  exact congrArg Array.ofFn (funext fun j => h j.val j.isLt)
def L0f (ca : Nat → ClassId) (b1 b2 : Nat → Nat) : va_W := [(b1 0, .inr (8, [.ref (b1 1), .ref (b1 17), .ref (b1 33), .int 0, .ref (b1 49), .ref (b1 115), .ref (b1 120), .ref (b1 130), .ref (b1 142)])),
  (b1 1, .inr (5, [.int 0, .int 900, .int 1500, .int 20, .int 0, .int 0, .int 0, .ref (b1 2), .ref (b1 7), .ref (b1 13)])),
  (b1 2, .inr (4, [.int 0, .ref (b1 3), .ref (b1 4), .ref (b1 5), .ref (b1 6)])),
  (b1 3, .inl (ca 0, (8, .inl (fun _ => 0)))),
  (b1 4, .inl (ca 0, (8, .inl (fun _ => 0)))),
  (b1 5, .inl (ca 0, (8, .inl (fun _ => 0)))),
  (b1 6, .inl (ca 0, (8, .inl (fun _ => 0)))),
  (b1 7, .inr (0, [.int 0, .ref (b1 8), .ref (b1 9), .ref (b1 10), .ref (b1 11), .ref (b1 12)])),
  (b1 8, .inl (ca 0, (60, .inl (fun _ => 0)))),
  (b1 9, .inl (ca 0, (60, .inl (fun _ => 0)))),
  (b1 10, .inl (ca 0, (60, .inl (fun _ => 0)))),
  (b1 11, .inl (ca 0, (60, .inl (fun _ => 0)))),
  (b1 12, .inl (ca 0, (60, .inl (fun _ => 0)))),
  (b1 13, .inr (7, [.int 0, .ref (b1 14), .ref (b1 15), .ref (b1 16)])),
  (b1 14, .inl (ca 0, (8, .inl (fun _ => 0)))),
  (b1 15, .inl (ca 0, (8, .inl (fun _ => 0)))),
  (b1 16, .inl (ca 0, (8, .inl (fun _ => 0)))),
  (b1 17, .inr (5, [.int 0, .int 900, .int 1500, .int 20, .int 0, .int 0, .int 0, .ref (b1 18), .ref (b1 23), .ref (b1 29)])),
  (b1 18, .inr (4, [.int 0, .ref (b1 19), .ref (b1 20), .ref (b1 21), .ref (b1 22)])),
  (b1 19, .inl (ca 0, (8, .inl (fun _ => 0)))),
  (b1 20, .inl (ca 0, (8, .inl (fun _ => 0)))),
  (b1 21, .inl (ca 0, (8, .inl (fun _ => 0)))),
  (b1 22, .inl (ca 0, (8, .inl (fun _ => 0)))),
  (b1 23, .inr (0, [.int 0, .ref (b1 24), .ref (b1 25), .ref (b1 26), .ref (b1 27), .ref (b1 28)])),
  (b1 24, .inl (ca 0, (60, .inl (fun _ => 0)))),
  (b1 25, .inl (ca 0, (60, .inl (fun _ => 0)))),
  (b1 26, .inl (ca 0, (60, .inl (fun _ => 0)))),
  (b1 27, .inl (ca 0, (60, .inl (fun _ => 0)))),
  (b1 28, .inl (ca 0, (60, .inl (fun _ => 0)))),
  (b1 29, .inr (7, [.int 0, .ref (b1 30), .ref (b1 31), .ref (b1 32)])),
  (b1 30, .inl (ca 0, (8, .inl (fun _ => 0)))),
  (b1 31, .inl (ca 0, (8, .inl (fun _ => 0)))),
  (b1 32, .inl (ca 0, (8, .inl (fun _ => 0)))),
  (b1 33, .inr (5, [.int 0, .int 900, .int 1500, .int 20, .int 0, .int 0, .int 0, .ref (b1 34), .ref (b1 39), .ref (b1 45)])),
  (b1 34, .inr (4, [.int 0, .ref (b1 35), .ref (b1 36), .ref (b1 37), .ref (b1 38)])),
  (b1 35, .inl (ca 0, (8, .inl (fun _ => 0)))),
  (b1 36, .inl (ca 0, (8, .inl (fun _ => 0)))),
  (b1 37, .inl (ca 0, (8, .inl (fun _ => 0)))),
  (b1 38, .inl (ca 0, (8, .inl (fun _ => 0)))),
  (b1 39, .inr (0, [.int 0, .ref (b1 40), .ref (b1 41), .ref (b1 42), .ref (b1 43), .ref (b1 44)])),
  (b1 40, .inl (ca 0, (60, .inl (fun _ => 0)))),
  (b1 41, .inl (ca 0, (60, .inl (fun _ => 0)))),
  (b1 42, .inl (ca 0, (60, .inl (fun _ => 0)))),
  (b1 43, .inl (ca 0, (60, .inl (fun _ => 0)))),
  (b1 44, .inl (ca 0, (60, .inl (fun _ => 0)))),
  (b1 45, .inr (7, [.int 0, .ref (b1 46), .ref (b1 47), .ref (b1 48)])),
  (b1 46, .inl (ca 0, (8, .inl (fun _ => 0)))),
  (b1 47, .inl (ca 0, (8, .inl (fun _ => 0)))),
  (b1 48, .inl (ca 0, (8, .inl (fun _ => 0)))),
  (b1 49, .inr (2, [.ref (b1 50), .int 0])),
  (b1 50, .inl (ca 3, (4, .inr (.inr (.inr (.inr (va_up (va_up (va_up (va_up (fun _ => none) 0 (some (b1 51))) 1 (some (b1 67))) 2 (some (b1 83))) 3 (some (b1 99))))))))),
  (b1 51, .inr (5, [.int 0, .int 900, .int 1500, .int 20, .int 0, .int 0, .int 0, .ref (b1 52), .ref (b1 57), .ref (b1 63)])),
  (b1 52, .inr (4, [.int 0, .ref (b1 53), .ref (b1 54), .ref (b1 55), .ref (b1 56)])),
  (b1 53, .inl (ca 0, (8, .inl (fun _ => 0)))),
  (b1 54, .inl (ca 0, (8, .inl (fun _ => 0)))),
  (b1 55, .inl (ca 0, (8, .inl (fun _ => 0)))),
  (b1 56, .inl (ca 0, (8, .inl (fun _ => 0)))),
  (b1 57, .inr (0, [.int 0, .ref (b1 58), .ref (b1 59), .ref (b1 60), .ref (b1 61), .ref (b1 62)])),
  (b1 58, .inl (ca 0, (60, .inl (fun _ => 0)))),
  (b1 59, .inl (ca 0, (60, .inl (fun _ => 0)))),
  (b1 60, .inl (ca 0, (60, .inl (fun _ => 0)))),
  (b1 61, .inl (ca 0, (60, .inl (fun _ => 0)))),
  (b1 62, .inl (ca 0, (60, .inl (fun _ => 0)))),
  (b1 63, .inr (7, [.int 0, .ref (b1 64), .ref (b1 65), .ref (b1 66)])),
  (b1 64, .inl (ca 0, (8, .inl (fun _ => 0)))),
  (b1 65, .inl (ca 0, (8, .inl (fun _ => 0)))),
  (b1 66, .inl (ca 0, (8, .inl (fun _ => 0)))),
  (b1 67, .inr (5, [.int 0, .int 900, .int 1500, .int 20, .int 0, .int 0, .int 0, .ref (b1 68), .ref (b1 73), .ref (b1 79)])),
  (b1 68, .inr (4, [.int 0, .ref (b1 69), .ref (b1 70), .ref (b1 71), .ref (b1 72)])),
  (b1 69, .inl (ca 0, (8, .inl (fun _ => 0)))),
  (b1 70, .inl (ca 0, (8, .inl (fun _ => 0)))),
  (b1 71, .inl (ca 0, (8, .inl (fun _ => 0)))),
  (b1 72, .inl (ca 0, (8, .inl (fun _ => 0)))),
  (b1 73, .inr (0, [.int 0, .ref (b1 74), .ref (b1 75), .ref (b1 76), .ref (b1 77), .ref (b1 78)])),
  (b1 74, .inl (ca 0, (60, .inl (fun _ => 0)))),
  (b1 75, .inl (ca 0, (60, .inl (fun _ => 0)))),
  (b1 76, .inl (ca 0, (60, .inl (fun _ => 0)))),
  (b1 77, .inl (ca 0, (60, .inl (fun _ => 0)))),
  (b1 78, .inl (ca 0, (60, .inl (fun _ => 0)))),
  (b1 79, .inr (7, [.int 0, .ref (b1 80), .ref (b1 81), .ref (b1 82)])),
  (b1 80, .inl (ca 0, (8, .inl (fun _ => 0)))),
  (b1 81, .inl (ca 0, (8, .inl (fun _ => 0)))),
  (b1 82, .inl (ca 0, (8, .inl (fun _ => 0)))),
  (b1 83, .inr (5, [.int 0, .int 900, .int 1500, .int 20, .int 0, .int 0, .int 0, .ref (b1 84), .ref (b1 89), .ref (b1 95)])),
  (b1 84, .inr (4, [.int 0, .ref (b1 85), .ref (b1 86), .ref (b1 87), .ref (b1 88)])),
  (b1 85, .inl (ca 0, (8, .inl (fun _ => 0)))),
  (b1 86, .inl (ca 0, (8, .inl (fun _ => 0)))),
  (b1 87, .inl (ca 0, (8, .inl (fun _ => 0)))),
  (b1 88, .inl (ca 0, (8, .inl (fun _ => 0)))),
  (b1 89, .inr (0, [.int 0, .ref (b1 90), .ref (b1 91), .ref (b1 92), .ref (b1 93), .ref (b1 94)])),
  (b1 90, .inl (ca 0, (60, .inl (fun _ => 0)))),
  (b1 91, .inl (ca 0, (60, .inl (fun _ => 0)))),
  (b1 92, .inl (ca 0, (60, .inl (fun _ => 0)))),
  (b1 93, .inl (ca 0, (60, .inl (fun _ => 0)))),
  (b1 94, .inl (ca 0, (60, .inl (fun _ => 0)))),
  (b1 95, .inr (7, [.int 0, .ref (b1 96), .ref (b1 97), .ref (b1 98)])),
  (b1 96, .inl (ca 0, (8, .inl (fun _ => 0)))),
  (b1 97, .inl (ca 0, (8, .inl (fun _ => 0)))),
  (b1 98, .inl (ca 0, (8, .inl (fun _ => 0)))),
  (b1 99, .inr (5, [.int 0, .int 900, .int 1500, .int 20, .int 0, .int 0, .int 0, .ref (b1 100), .ref (b1 105), .ref (b1 111)])),
  (b1 100, .inr (4, [.int 0, .ref (b1 101), .ref (b1 102), .ref (b1 103), .ref (b1 104)])),
  (b1 101, .inl (ca 0, (8, .inl (fun _ => 0)))),
  (b1 102, .inl (ca 0, (8, .inl (fun _ => 0)))),
  (b1 103, .inl (ca 0, (8, .inl (fun _ => 0)))),
  (b1 104, .inl (ca 0, (8, .inl (fun _ => 0)))),
  (b1 105, .inr (0, [.int 0, .ref (b1 106), .ref (b1 107), .ref (b1 108), .ref (b1 109), .ref (b1 110)])),
  (b1 106, .inl (ca 0, (60, .inl (fun _ => 0)))),
  (b1 107, .inl (ca 0, (60, .inl (fun _ => 0)))),
  (b1 108, .inl (ca 0, (60, .inl (fun _ => 0)))),
  (b1 109, .inl (ca 0, (60, .inl (fun _ => 0)))),
  (b1 110, .inl (ca 0, (60, .inl (fun _ => 0)))),
  (b1 111, .inr (7, [.int 0, .ref (b1 112), .ref (b1 113), .ref (b1 114)])),
  (b1 112, .inl (ca 0, (8, .inl (fun _ => 0)))),
  (b1 113, .inl (ca 0, (8, .inl (fun _ => 0)))),
  (b1 114, .inl (ca 0, (8, .inl (fun _ => 0)))),
  (b1 115, .inr (6, [.ref (b1 116), .int 0, .int 0, .ref (b1 117), .ref (b1 118), .ref (b1 119), .int 0])),
  (b1 116, .inl (ca 2, (60, .inl (fun _ => 0)))),
  (b1 117, .inl (ca 0, (10, .inl (fun _ => 0)))),
  (b1 118, .inl (ca 0, (10, .inl (fun _ => 0)))),
  (b1 119, .inl (ca 0, (10, .inl (fun _ => 0)))),
  (b1 120, .inr (1, [.int 0, .int 0, .int 0, .int 0, .int 0, .int 0, .int 0, .int 0, .ref (b1 121), .ref (b1 122), .ref (b1 123), .ref (b1 124), .ref (b1 125), .ref (b1 126), .ref (b1 127), .ref (b1 128), .ref (b1 129)])),
  (b1 121, .inl (ca 0, (61, .inl (fun _ => 0)))),
  (b1 122, .inl (ca 0, (61, .inl (fun _ => 0)))),
  (b1 123, .inl (ca 0, (61, .inl (fun _ => 0)))),
  (b1 124, .inl (ca 0, (61, .inl (fun _ => 0)))),
  (b1 125, .inl (ca 0, (61, .inl (fun _ => 0)))),
  (b1 126, .inl (ca 0, (61, .inl (fun _ => 0)))),
  (b1 127, .inl (ca 0, (61, .inl (fun _ => 0)))),
  (b1 128, .inl (ca 0, (61, .inl (fun _ => 0)))),
  (b1 129, .inl (ca 0, (61, .inl (fun _ => 0)))),
  (b1 130, .inr (3, [.ref (b1 131), .ref (b1 141), .int 0, .int 0])),
  (b1 131, .inr (1, [.int 0, .int 0, .int 0, .int 0, .int 0, .int 0, .int 0, .int 0, .ref (b1 132), .ref (b1 133), .ref (b1 134), .ref (b1 135), .ref (b1 136), .ref (b1 137), .ref (b1 138), .ref (b1 139), .ref (b1 140)])),
  (b1 132, .inl (ca 0, (61, .inl (fun _ => 0)))),
  (b1 133, .inl (ca 0, (61, .inl (fun _ => 0)))),
  (b1 134, .inl (ca 0, (61, .inl (fun _ => 0)))),
  (b1 135, .inl (ca 0, (61, .inl (fun _ => 0)))),
  (b1 136, .inl (ca 0, (61, .inl (fun _ => 0)))),
  (b1 137, .inl (ca 0, (61, .inl (fun _ => 0)))),
  (b1 138, .inl (ca 0, (61, .inl (fun _ => 0)))),
  (b1 139, .inl (ca 0, (61, .inl (fun _ => 0)))),
  (b1 140, .inl (ca 0, (61, .inl (fun _ => 0)))),
  (b1 141, .inl (ca 1, (60, .inl (fun _ => 0)))),
  (b1 142, .inl (ca 1, (60, .inl (fun _ => 0)))),
  (b2 0, .inr (9, [.ref (b2 1), .ref (b2 2), .int 0, .ref (b2 3), .int 0, .ref (b2 4), .ref (b2 5), .ref (b2 6), .ref (b2 7), .ref (b2 8), .int 0, .int (-1), .int 0, .int (-1), .int (-1), .int 0, .int 0, .ref (b2 9), .int 0, .ref (b2 10), .int 0, .int 0, .int 0, .int 0])),
  (b2 1, .inl (ca 0, (366, .inl (upd (upd (upd (fun _ => 0) 1 900) 2 1500) 3 20)))),
  (b2 2, .inl (ca 0, (1464, .inl (fun _ => 0)))),
  (b2 3, .inl (ca 0, (366, .inl (fun _ => 0)))),
  (b2 4, .inl (ca 0, (366, .inl (fun _ => 0)))),
  (b2 5, .inl (ca 0, (61, .inl (fun _ => 0)))),
  (b2 6, .inl (ca 0, (61, .inl (fun _ => 0)))),
  (b2 7, .inl (ca 0, (61, .inl (fun _ => 0)))),
  (b2 8, .inl (ca 0, (61, .inl (fun _ => 0)))),
  (b2 9, .inl (ca 1, (60, .inl (fun _ => 0)))),
  (b2 10, .inl (ca 2, (60, .inl (fun _ => 0))))]
set_option maxRecDepth 100000 in
theorem L0_flat (D : va_G) (z : Nat → Nat) (ca : Nat → ClassId) (b1 b2 : Nat → Nat) : L0 (D, z, ca) b1 b2 = L0f ca b1 b2 := rfl
section st
variable (D : va_G) (ca : Nat → ClassId) (b1 b2 : Nat → Nat)
set_option maxRecDepth 100000 in
theorem st_0 : (L0f ca b1 b2)[1]? = some (adr b1 b2 0, ent (D, adr b1 b2, ca) 0 (M0 0)) := rfl
set_option maxRecDepth 100000 in
theorem st_1 : (L0f ca b1 b2)[2]? = some (adr b1 b2 1, ent (D, adr b1 b2, ca) 1 (M0 1)) := rfl
set_option maxRecDepth 100000 in
theorem st_2 : (L0f ca b1 b2)[3]? = some (adr b1 b2 2, ent (D, adr b1 b2, ca) 2 (M0 2)) := rfl
set_option maxRecDepth 100000 in
theorem st_3 : (L0f ca b1 b2)[4]? = some (adr b1 b2 3, ent (D, adr b1 b2, ca) 3 (M0 3)) := rfl
set_option maxRecDepth 100000 in
theorem st_4 : (L0f ca b1 b2)[5]? = some (adr b1 b2 4, ent (D, adr b1 b2, ca) 4 (M0 4)) := rfl
set_option maxRecDepth 100000 in
theorem st_5 : (L0f ca b1 b2)[6]? = some (adr b1 b2 5, ent (D, adr b1 b2, ca) 5 (M0 5)) := rfl
set_option maxRecDepth 100000 in
theorem st_6 : (L0f ca b1 b2)[7]? = some (adr b1 b2 6, ent (D, adr b1 b2, ca) 6 (M0 6)) := rfl
set_option maxRecDepth 100000 in
theorem st_7 : (L0f ca b1 b2)[8]? = some (adr b1 b2 7, ent (D, adr b1 b2, ca) 7 (M0 7)) := rfl
set_option maxRecDepth 100000 in
theorem st_8 : (L0f ca b1 b2)[9]? = some (adr b1 b2 8, ent (D, adr b1 b2, ca) 8 (M0 8)) := rfl
set_option maxRecDepth 100000 in
theorem st_9 : (L0f ca b1 b2)[10]? = some (adr b1 b2 9, ent (D, adr b1 b2, ca) 9 (M0 9)) := rfl
set_option maxRecDepth 100000 in
theorem st_10 : (L0f ca b1 b2)[11]? = some (adr b1 b2 10, ent (D, adr b1 b2, ca) 10 (M0 10)) := rfl
set_option maxRecDepth 100000 in
theorem st_11 : (L0f ca b1 b2)[12]? = some (adr b1 b2 11, ent (D, adr b1 b2, ca) 11 (M0 11)) := rfl
set_option maxRecDepth 100000 in
theorem st_12 : (L0f ca b1 b2)[13]? = some (adr b1 b2 12, ent (D, adr b1 b2, ca) 12 (M0 12)) := rfl
set_option maxRecDepth 100000 in
theorem st_13 : (L0f ca b1 b2)[14]? = some (adr b1 b2 13, ent (D, adr b1 b2, ca) 13 (M0 13)) := rfl
set_option maxRecDepth 100000 in
theorem st_14 : (L0f ca b1 b2)[15]? = some (adr b1 b2 14, ent (D, adr b1 b2, ca) 14 (M0 14)) := rfl
set_option maxRecDepth 100000 in
theorem st_15 : (L0f ca b1 b2)[16]? = some (adr b1 b2 15, ent (D, adr b1 b2, ca) 15 (M0 15)) := rfl
set_option maxRecDepth 100000 in
theorem st_16 : (L0f ca b1 b2)[17]? = some (adr b1 b2 16, ent (D, adr b1 b2, ca) 16 (M0 16)) := rfl
set_option maxRecDepth 100000 in
theorem st_17 : (L0f ca b1 b2)[18]? = some (adr b1 b2 17, ent (D, adr b1 b2, ca) 17 (M0 17)) := rfl
set_option maxRecDepth 100000 in
theorem st_18 : (L0f ca b1 b2)[19]? = some (adr b1 b2 18, ent (D, adr b1 b2, ca) 18 (M0 18)) := rfl
set_option maxRecDepth 100000 in
theorem st_19 : (L0f ca b1 b2)[20]? = some (adr b1 b2 19, ent (D, adr b1 b2, ca) 19 (M0 19)) := rfl
set_option maxRecDepth 100000 in
theorem st_20 : (L0f ca b1 b2)[21]? = some (adr b1 b2 20, ent (D, adr b1 b2, ca) 20 (M0 20)) := rfl
set_option maxRecDepth 100000 in
theorem st_21 : (L0f ca b1 b2)[22]? = some (adr b1 b2 21, ent (D, adr b1 b2, ca) 21 (M0 21)) := rfl
set_option maxRecDepth 100000 in
theorem st_22 : (L0f ca b1 b2)[23]? = some (adr b1 b2 22, ent (D, adr b1 b2, ca) 22 (M0 22)) := rfl
set_option maxRecDepth 100000 in
theorem st_23 : (L0f ca b1 b2)[24]? = some (adr b1 b2 23, ent (D, adr b1 b2, ca) 23 (M0 23)) := rfl
set_option maxRecDepth 100000 in
theorem st_24 : (L0f ca b1 b2)[25]? = some (adr b1 b2 24, ent (D, adr b1 b2, ca) 24 (M0 24)) := rfl
set_option maxRecDepth 100000 in
theorem st_25 : (L0f ca b1 b2)[26]? = some (adr b1 b2 25, ent (D, adr b1 b2, ca) 25 (M0 25)) := rfl
set_option maxRecDepth 100000 in
theorem st_26 : (L0f ca b1 b2)[27]? = some (adr b1 b2 26, ent (D, adr b1 b2, ca) 26 (M0 26)) := rfl
set_option maxRecDepth 100000 in
theorem st_27 : (L0f ca b1 b2)[28]? = some (adr b1 b2 27, ent (D, adr b1 b2, ca) 27 (M0 27)) := rfl
set_option maxRecDepth 100000 in
theorem st_28 : (L0f ca b1 b2)[29]? = some (adr b1 b2 28, ent (D, adr b1 b2, ca) 28 (M0 28)) := rfl
set_option maxRecDepth 100000 in
theorem st_29 : (L0f ca b1 b2)[30]? = some (adr b1 b2 29, ent (D, adr b1 b2, ca) 29 (M0 29)) := rfl
set_option maxRecDepth 100000 in
theorem st_30 : (L0f ca b1 b2)[31]? = some (adr b1 b2 30, ent (D, adr b1 b2, ca) 30 (M0 30)) := rfl
set_option maxRecDepth 100000 in
theorem st_31 : (L0f ca b1 b2)[32]? = some (adr b1 b2 31, ent (D, adr b1 b2, ca) 31 (M0 31)) := rfl
set_option maxRecDepth 100000 in
theorem st_32 : (L0f ca b1 b2)[33]? = some (adr b1 b2 32, ent (D, adr b1 b2, ca) 32 (M0 32)) := rfl
set_option maxRecDepth 100000 in
theorem st_33 : (L0f ca b1 b2)[34]? = some (adr b1 b2 33, ent (D, adr b1 b2, ca) 33 (M0 33)) := rfl
set_option maxRecDepth 100000 in
theorem st_34 : (L0f ca b1 b2)[35]? = some (adr b1 b2 34, ent (D, adr b1 b2, ca) 34 (M0 34)) := rfl
set_option maxRecDepth 100000 in
theorem st_35 : (L0f ca b1 b2)[36]? = some (adr b1 b2 35, ent (D, adr b1 b2, ca) 35 (M0 35)) := rfl
set_option maxRecDepth 100000 in
theorem st_36 : (L0f ca b1 b2)[37]? = some (adr b1 b2 36, ent (D, adr b1 b2, ca) 36 (M0 36)) := rfl
set_option maxRecDepth 100000 in
theorem st_37 : (L0f ca b1 b2)[38]? = some (adr b1 b2 37, ent (D, adr b1 b2, ca) 37 (M0 37)) := rfl
set_option maxRecDepth 100000 in
theorem st_38 : (L0f ca b1 b2)[39]? = some (adr b1 b2 38, ent (D, adr b1 b2, ca) 38 (M0 38)) := rfl
set_option maxRecDepth 100000 in
theorem st_39 : (L0f ca b1 b2)[40]? = some (adr b1 b2 39, ent (D, adr b1 b2, ca) 39 (M0 39)) := rfl
set_option maxRecDepth 100000 in
theorem st_40 : (L0f ca b1 b2)[41]? = some (adr b1 b2 40, ent (D, adr b1 b2, ca) 40 (M0 40)) := rfl
set_option maxRecDepth 100000 in
theorem st_41 : (L0f ca b1 b2)[42]? = some (adr b1 b2 41, ent (D, adr b1 b2, ca) 41 (M0 41)) := rfl
set_option maxRecDepth 100000 in
theorem st_42 : (L0f ca b1 b2)[43]? = some (adr b1 b2 42, ent (D, adr b1 b2, ca) 42 (M0 42)) := rfl
set_option maxRecDepth 100000 in
theorem st_43 : (L0f ca b1 b2)[44]? = some (adr b1 b2 43, ent (D, adr b1 b2, ca) 43 (M0 43)) := rfl
set_option maxRecDepth 100000 in
theorem st_44 : (L0f ca b1 b2)[45]? = some (adr b1 b2 44, ent (D, adr b1 b2, ca) 44 (M0 44)) := rfl
set_option maxRecDepth 100000 in
theorem st_45 : (L0f ca b1 b2)[46]? = some (adr b1 b2 45, ent (D, adr b1 b2, ca) 45 (M0 45)) := rfl
set_option maxRecDepth 100000 in
theorem st_46 : (L0f ca b1 b2)[47]? = some (adr b1 b2 46, ent (D, adr b1 b2, ca) 46 (M0 46)) := rfl
set_option maxRecDepth 100000 in
theorem st_47 : (L0f ca b1 b2)[48]? = some (adr b1 b2 47, ent (D, adr b1 b2, ca) 47 (M0 47)) := rfl
set_option maxRecDepth 100000 in
theorem st_48 : (L0f ca b1 b2)[51]? = some (adr b1 b2 48, ent (D, adr b1 b2, ca) 48 (M0 48)) := rfl
set_option maxRecDepth 100000 in
theorem st_49 : (L0f ca b1 b2)[52]? = some (adr b1 b2 49, ent (D, adr b1 b2, ca) 49 (M0 49)) := rfl
set_option maxRecDepth 100000 in
theorem st_50 : (L0f ca b1 b2)[53]? = some (adr b1 b2 50, ent (D, adr b1 b2, ca) 50 (M0 50)) := rfl
set_option maxRecDepth 100000 in
theorem st_51 : (L0f ca b1 b2)[54]? = some (adr b1 b2 51, ent (D, adr b1 b2, ca) 51 (M0 51)) := rfl
set_option maxRecDepth 100000 in
theorem st_52 : (L0f ca b1 b2)[55]? = some (adr b1 b2 52, ent (D, adr b1 b2, ca) 52 (M0 52)) := rfl
set_option maxRecDepth 100000 in
theorem st_53 : (L0f ca b1 b2)[56]? = some (adr b1 b2 53, ent (D, adr b1 b2, ca) 53 (M0 53)) := rfl
set_option maxRecDepth 100000 in
theorem st_54 : (L0f ca b1 b2)[57]? = some (adr b1 b2 54, ent (D, adr b1 b2, ca) 54 (M0 54)) := rfl
set_option maxRecDepth 100000 in
theorem st_55 : (L0f ca b1 b2)[58]? = some (adr b1 b2 55, ent (D, adr b1 b2, ca) 55 (M0 55)) := rfl
set_option maxRecDepth 100000 in
theorem st_56 : (L0f ca b1 b2)[59]? = some (adr b1 b2 56, ent (D, adr b1 b2, ca) 56 (M0 56)) := rfl
set_option maxRecDepth 100000 in
theorem st_57 : (L0f ca b1 b2)[60]? = some (adr b1 b2 57, ent (D, adr b1 b2, ca) 57 (M0 57)) := rfl
set_option maxRecDepth 100000 in
theorem st_58 : (L0f ca b1 b2)[61]? = some (adr b1 b2 58, ent (D, adr b1 b2, ca) 58 (M0 58)) := rfl
set_option maxRecDepth 100000 in
theorem st_59 : (L0f ca b1 b2)[62]? = some (adr b1 b2 59, ent (D, adr b1 b2, ca) 59 (M0 59)) := rfl
set_option maxRecDepth 100000 in
theorem st_60 : (L0f ca b1 b2)[63]? = some (adr b1 b2 60, ent (D, adr b1 b2, ca) 60 (M0 60)) := rfl
set_option maxRecDepth 100000 in
theorem st_61 : (L0f ca b1 b2)[64]? = some (adr b1 b2 61, ent (D, adr b1 b2, ca) 61 (M0 61)) := rfl
set_option maxRecDepth 100000 in
theorem st_62 : (L0f ca b1 b2)[65]? = some (adr b1 b2 62, ent (D, adr b1 b2, ca) 62 (M0 62)) := rfl
set_option maxRecDepth 100000 in
theorem st_63 : (L0f ca b1 b2)[66]? = some (adr b1 b2 63, ent (D, adr b1 b2, ca) 63 (M0 63)) := rfl
set_option maxRecDepth 100000 in
theorem st_64 : (L0f ca b1 b2)[67]? = some (adr b1 b2 64, ent (D, adr b1 b2, ca) 64 (M0 64)) := rfl
set_option maxRecDepth 100000 in
theorem st_65 : (L0f ca b1 b2)[68]? = some (adr b1 b2 65, ent (D, adr b1 b2, ca) 65 (M0 65)) := rfl
set_option maxRecDepth 100000 in
theorem st_66 : (L0f ca b1 b2)[69]? = some (adr b1 b2 66, ent (D, adr b1 b2, ca) 66 (M0 66)) := rfl
set_option maxRecDepth 100000 in
theorem st_67 : (L0f ca b1 b2)[70]? = some (adr b1 b2 67, ent (D, adr b1 b2, ca) 67 (M0 67)) := rfl
set_option maxRecDepth 100000 in
theorem st_68 : (L0f ca b1 b2)[71]? = some (adr b1 b2 68, ent (D, adr b1 b2, ca) 68 (M0 68)) := rfl
set_option maxRecDepth 100000 in
theorem st_69 : (L0f ca b1 b2)[72]? = some (adr b1 b2 69, ent (D, adr b1 b2, ca) 69 (M0 69)) := rfl
set_option maxRecDepth 100000 in
theorem st_70 : (L0f ca b1 b2)[73]? = some (adr b1 b2 70, ent (D, adr b1 b2, ca) 70 (M0 70)) := rfl
set_option maxRecDepth 100000 in
theorem st_71 : (L0f ca b1 b2)[74]? = some (adr b1 b2 71, ent (D, adr b1 b2, ca) 71 (M0 71)) := rfl
set_option maxRecDepth 100000 in
theorem st_72 : (L0f ca b1 b2)[75]? = some (adr b1 b2 72, ent (D, adr b1 b2, ca) 72 (M0 72)) := rfl
set_option maxRecDepth 100000 in
theorem st_73 : (L0f ca b1 b2)[76]? = some (adr b1 b2 73, ent (D, adr b1 b2, ca) 73 (M0 73)) := rfl
set_option maxRecDepth 100000 in
theorem st_74 : (L0f ca b1 b2)[77]? = some (adr b1 b2 74, ent (D, adr b1 b2, ca) 74 (M0 74)) := rfl
set_option maxRecDepth 100000 in
theorem st_75 : (L0f ca b1 b2)[78]? = some (adr b1 b2 75, ent (D, adr b1 b2, ca) 75 (M0 75)) := rfl
set_option maxRecDepth 100000 in
theorem st_76 : (L0f ca b1 b2)[79]? = some (adr b1 b2 76, ent (D, adr b1 b2, ca) 76 (M0 76)) := rfl
set_option maxRecDepth 100000 in
theorem st_77 : (L0f ca b1 b2)[80]? = some (adr b1 b2 77, ent (D, adr b1 b2, ca) 77 (M0 77)) := rfl
set_option maxRecDepth 100000 in
theorem st_78 : (L0f ca b1 b2)[81]? = some (adr b1 b2 78, ent (D, adr b1 b2, ca) 78 (M0 78)) := rfl
set_option maxRecDepth 100000 in
theorem st_79 : (L0f ca b1 b2)[82]? = some (adr b1 b2 79, ent (D, adr b1 b2, ca) 79 (M0 79)) := rfl
set_option maxRecDepth 100000 in
theorem st_80 : (L0f ca b1 b2)[83]? = some (adr b1 b2 80, ent (D, adr b1 b2, ca) 80 (M0 80)) := rfl
set_option maxRecDepth 100000 in
theorem st_81 : (L0f ca b1 b2)[84]? = some (adr b1 b2 81, ent (D, adr b1 b2, ca) 81 (M0 81)) := rfl
set_option maxRecDepth 100000 in
theorem st_82 : (L0f ca b1 b2)[85]? = some (adr b1 b2 82, ent (D, adr b1 b2, ca) 82 (M0 82)) := rfl
set_option maxRecDepth 100000 in
theorem st_83 : (L0f ca b1 b2)[86]? = some (adr b1 b2 83, ent (D, adr b1 b2, ca) 83 (M0 83)) := rfl
set_option maxRecDepth 100000 in
theorem st_84 : (L0f ca b1 b2)[87]? = some (adr b1 b2 84, ent (D, adr b1 b2, ca) 84 (M0 84)) := rfl
set_option maxRecDepth 100000 in
theorem st_85 : (L0f ca b1 b2)[88]? = some (adr b1 b2 85, ent (D, adr b1 b2, ca) 85 (M0 85)) := rfl
set_option maxRecDepth 100000 in
theorem st_86 : (L0f ca b1 b2)[89]? = some (adr b1 b2 86, ent (D, adr b1 b2, ca) 86 (M0 86)) := rfl
set_option maxRecDepth 100000 in
theorem st_87 : (L0f ca b1 b2)[90]? = some (adr b1 b2 87, ent (D, adr b1 b2, ca) 87 (M0 87)) := rfl
set_option maxRecDepth 100000 in
theorem st_88 : (L0f ca b1 b2)[91]? = some (adr b1 b2 88, ent (D, adr b1 b2, ca) 88 (M0 88)) := rfl
set_option maxRecDepth 100000 in
theorem st_89 : (L0f ca b1 b2)[92]? = some (adr b1 b2 89, ent (D, adr b1 b2, ca) 89 (M0 89)) := rfl
set_option maxRecDepth 100000 in
theorem st_90 : (L0f ca b1 b2)[93]? = some (adr b1 b2 90, ent (D, adr b1 b2, ca) 90 (M0 90)) := rfl
set_option maxRecDepth 100000 in
theorem st_91 : (L0f ca b1 b2)[94]? = some (adr b1 b2 91, ent (D, adr b1 b2, ca) 91 (M0 91)) := rfl
set_option maxRecDepth 100000 in
theorem st_92 : (L0f ca b1 b2)[95]? = some (adr b1 b2 92, ent (D, adr b1 b2, ca) 92 (M0 92)) := rfl
set_option maxRecDepth 100000 in
theorem st_93 : (L0f ca b1 b2)[96]? = some (adr b1 b2 93, ent (D, adr b1 b2, ca) 93 (M0 93)) := rfl
set_option maxRecDepth 100000 in
theorem st_94 : (L0f ca b1 b2)[97]? = some (adr b1 b2 94, ent (D, adr b1 b2, ca) 94 (M0 94)) := rfl
set_option maxRecDepth 100000 in
theorem st_95 : (L0f ca b1 b2)[98]? = some (adr b1 b2 95, ent (D, adr b1 b2, ca) 95 (M0 95)) := rfl
set_option maxRecDepth 100000 in
theorem st_96 : (L0f ca b1 b2)[99]? = some (adr b1 b2 96, ent (D, adr b1 b2, ca) 96 (M0 96)) := rfl
set_option maxRecDepth 100000 in
theorem st_97 : (L0f ca b1 b2)[100]? = some (adr b1 b2 97, ent (D, adr b1 b2, ca) 97 (M0 97)) := rfl
set_option maxRecDepth 100000 in
theorem st_98 : (L0f ca b1 b2)[101]? = some (adr b1 b2 98, ent (D, adr b1 b2, ca) 98 (M0 98)) := rfl
set_option maxRecDepth 100000 in
theorem st_99 : (L0f ca b1 b2)[102]? = some (adr b1 b2 99, ent (D, adr b1 b2, ca) 99 (M0 99)) := rfl
set_option maxRecDepth 100000 in
theorem st_100 : (L0f ca b1 b2)[103]? = some (adr b1 b2 100, ent (D, adr b1 b2, ca) 100 (M0 100)) := rfl
set_option maxRecDepth 100000 in
theorem st_101 : (L0f ca b1 b2)[104]? = some (adr b1 b2 101, ent (D, adr b1 b2, ca) 101 (M0 101)) := rfl
set_option maxRecDepth 100000 in
theorem st_102 : (L0f ca b1 b2)[105]? = some (adr b1 b2 102, ent (D, adr b1 b2, ca) 102 (M0 102)) := rfl
set_option maxRecDepth 100000 in
theorem st_103 : (L0f ca b1 b2)[106]? = some (adr b1 b2 103, ent (D, adr b1 b2, ca) 103 (M0 103)) := rfl
set_option maxRecDepth 100000 in
theorem st_104 : (L0f ca b1 b2)[107]? = some (adr b1 b2 104, ent (D, adr b1 b2, ca) 104 (M0 104)) := rfl
set_option maxRecDepth 100000 in
theorem st_105 : (L0f ca b1 b2)[108]? = some (adr b1 b2 105, ent (D, adr b1 b2, ca) 105 (M0 105)) := rfl
set_option maxRecDepth 100000 in
theorem st_106 : (L0f ca b1 b2)[109]? = some (adr b1 b2 106, ent (D, adr b1 b2, ca) 106 (M0 106)) := rfl
set_option maxRecDepth 100000 in
theorem st_107 : (L0f ca b1 b2)[110]? = some (adr b1 b2 107, ent (D, adr b1 b2, ca) 107 (M0 107)) := rfl
set_option maxRecDepth 100000 in
theorem st_108 : (L0f ca b1 b2)[111]? = some (adr b1 b2 108, ent (D, adr b1 b2, ca) 108 (M0 108)) := rfl
set_option maxRecDepth 100000 in
theorem st_109 : (L0f ca b1 b2)[112]? = some (adr b1 b2 109, ent (D, adr b1 b2, ca) 109 (M0 109)) := rfl
set_option maxRecDepth 100000 in
theorem st_110 : (L0f ca b1 b2)[113]? = some (adr b1 b2 110, ent (D, adr b1 b2, ca) 110 (M0 110)) := rfl
set_option maxRecDepth 100000 in
theorem st_111 : (L0f ca b1 b2)[114]? = some (adr b1 b2 111, ent (D, adr b1 b2, ca) 111 (M0 111)) := rfl
set_option maxRecDepth 100000 in
theorem st_112 : (L0f ca b1 b2)[120]? = some (adr b1 b2 112, ent (D, adr b1 b2, ca) 112 (M0 112)) := rfl
set_option maxRecDepth 100000 in
theorem st_113 : (L0f ca b1 b2)[121]? = some (adr b1 b2 113, ent (D, adr b1 b2, ca) 113 (M0 113)) := rfl
set_option maxRecDepth 100000 in
theorem st_114 : (L0f ca b1 b2)[122]? = some (adr b1 b2 114, ent (D, adr b1 b2, ca) 114 (M0 114)) := rfl
set_option maxRecDepth 100000 in
theorem st_115 : (L0f ca b1 b2)[123]? = some (adr b1 b2 115, ent (D, adr b1 b2, ca) 115 (M0 115)) := rfl
set_option maxRecDepth 100000 in
theorem st_116 : (L0f ca b1 b2)[124]? = some (adr b1 b2 116, ent (D, adr b1 b2, ca) 116 (M0 116)) := rfl
set_option maxRecDepth 100000 in
theorem st_117 : (L0f ca b1 b2)[125]? = some (adr b1 b2 117, ent (D, adr b1 b2, ca) 117 (M0 117)) := rfl
set_option maxRecDepth 100000 in
theorem st_118 : (L0f ca b1 b2)[126]? = some (adr b1 b2 118, ent (D, adr b1 b2, ca) 118 (M0 118)) := rfl
set_option maxRecDepth 100000 in
theorem st_119 : (L0f ca b1 b2)[127]? = some (adr b1 b2 119, ent (D, adr b1 b2, ca) 119 (M0 119)) := rfl
set_option maxRecDepth 100000 in
theorem st_120 : (L0f ca b1 b2)[128]? = some (adr b1 b2 120, ent (D, adr b1 b2, ca) 120 (M0 120)) := rfl
set_option maxRecDepth 100000 in
theorem st_121 : (L0f ca b1 b2)[129]? = some (adr b1 b2 121, ent (D, adr b1 b2, ca) 121 (M0 121)) := rfl
set_option maxRecDepth 100000 in
theorem st_122 : (L0f ca b1 b2)[131]? = some (adr b1 b2 122, ent (D, adr b1 b2, ca) 122 (M0 122)) := rfl
set_option maxRecDepth 100000 in
theorem st_123 : (L0f ca b1 b2)[132]? = some (adr b1 b2 123, ent (D, adr b1 b2, ca) 123 (M0 123)) := rfl
set_option maxRecDepth 100000 in
theorem st_124 : (L0f ca b1 b2)[133]? = some (adr b1 b2 124, ent (D, adr b1 b2, ca) 124 (M0 124)) := rfl
set_option maxRecDepth 100000 in
theorem st_125 : (L0f ca b1 b2)[134]? = some (adr b1 b2 125, ent (D, adr b1 b2, ca) 125 (M0 125)) := rfl
set_option maxRecDepth 100000 in
theorem st_126 : (L0f ca b1 b2)[135]? = some (adr b1 b2 126, ent (D, adr b1 b2, ca) 126 (M0 126)) := rfl
set_option maxRecDepth 100000 in
theorem st_127 : (L0f ca b1 b2)[136]? = some (adr b1 b2 127, ent (D, adr b1 b2, ca) 127 (M0 127)) := rfl
set_option maxRecDepth 100000 in
theorem st_128 : (L0f ca b1 b2)[137]? = some (adr b1 b2 128, ent (D, adr b1 b2, ca) 128 (M0 128)) := rfl
set_option maxRecDepth 100000 in
theorem st_129 : (L0f ca b1 b2)[138]? = some (adr b1 b2 129, ent (D, adr b1 b2, ca) 129 (M0 129)) := rfl
set_option maxRecDepth 100000 in
theorem st_130 : (L0f ca b1 b2)[139]? = some (adr b1 b2 130, ent (D, adr b1 b2, ca) 130 (M0 130)) := rfl
set_option maxRecDepth 100000 in
theorem st_131 : (L0f ca b1 b2)[140]? = some (adr b1 b2 131, ent (D, adr b1 b2, ca) 131 (M0 131)) := rfl
set_option maxRecDepth 100000 in
theorem st_132 : (L0f ca b1 b2)[130]? = some (adr b1 b2 132, ent (D, adr b1 b2, ca) 132 (M0 132)) := rfl
set_option maxRecDepth 100000 in
theorem st_133 : (L0f ca b1 b2)[141]? = some (adr b1 b2 133, ent (D, adr b1 b2, ca) 133 (M0 133)) := rfl
set_option maxRecDepth 100000 in
theorem st_134 : (L0f ca b1 b2)[49]? = some (adr b1 b2 134, ent (D, adr b1 b2, ca) 134 (M0 134)) := rfl
set_option maxRecDepth 100000 in
theorem st_135 : (L0f ca b1 b2)[50]? = some (adr b1 b2 135, .inl (ca 3, (4, .inr (.inr (.inr (.inr (va_up (va_up (va_up (va_up (fun _ => none) 0 (some (b1 51))) 1 (some (b1 67))) 2 (some (b1 83))) 3 (some (b1 99))))))))) := rfl
set_option maxRecDepth 100000 in
theorem st_136 : (L0f ca b1 b2)[115]? = some (adr b1 b2 136, ent (D, adr b1 b2, ca) 136 (M0 136)) := rfl
set_option maxRecDepth 100000 in
theorem st_137 : (L0f ca b1 b2)[116]? = some (adr b1 b2 137, ent (D, adr b1 b2, ca) 137 (M0 137)) := rfl
set_option maxRecDepth 100000 in
theorem st_138 : (L0f ca b1 b2)[117]? = some (adr b1 b2 138, ent (D, adr b1 b2, ca) 138 (M0 138)) := rfl
set_option maxRecDepth 100000 in
theorem st_139 : (L0f ca b1 b2)[118]? = some (adr b1 b2 139, ent (D, adr b1 b2, ca) 139 (M0 139)) := rfl
set_option maxRecDepth 100000 in
theorem st_140 : (L0f ca b1 b2)[119]? = some (adr b1 b2 140, ent (D, adr b1 b2, ca) 140 (M0 140)) := rfl
set_option maxRecDepth 100000 in
theorem st_141 : (L0f ca b1 b2)[0]? = some (adr b1 b2 141, ent (D, adr b1 b2, ca) 141 (M0 141)) := rfl
set_option maxRecDepth 100000 in
theorem st_142 : (L0f ca b1 b2)[142]? = some (adr b1 b2 142, ent (D, adr b1 b2, ca) 142 (M0 142)) := rfl
set_option maxRecDepth 100000 in
theorem st_143 : (L0f ca b1 b2)[143]? = some (adr b1 b2 143, ent (D, adr b1 b2, ca) 143 (M0 143)) := rfl
set_option maxRecDepth 100000 in
theorem st_144 : (L0f ca b1 b2)[144]? = some (adr b1 b2 144, ent (D, adr b1 b2, ca) 144 (M0 144)) := rfl
set_option maxRecDepth 100000 in
theorem st_145 : (L0f ca b1 b2)[145]? = some (adr b1 b2 145, ent (D, adr b1 b2, ca) 145 (M0 145)) := rfl
set_option maxRecDepth 100000 in
theorem st_146 : (L0f ca b1 b2)[146]? = some (adr b1 b2 146, ent (D, adr b1 b2, ca) 146 (M0 146)) := rfl
set_option maxRecDepth 100000 in
theorem st_147 : (L0f ca b1 b2)[147]? = some (adr b1 b2 147, ent (D, adr b1 b2, ca) 147 (M0 147)) := rfl
set_option maxRecDepth 100000 in
theorem st_148 : (L0f ca b1 b2)[148]? = some (adr b1 b2 148, ent (D, adr b1 b2, ca) 148 (M0 148)) := rfl
set_option maxRecDepth 100000 in
theorem st_149 : (L0f ca b1 b2)[149]? = some (adr b1 b2 149, ent (D, adr b1 b2, ca) 149 (M0 149)) := rfl
set_option maxRecDepth 100000 in
theorem st_150 : (L0f ca b1 b2)[150]? = some (adr b1 b2 150, ent (D, adr b1 b2, ca) 150 (M0 150)) := rfl
set_option maxRecDepth 100000 in
theorem st_151 : (L0f ca b1 b2)[151]? = some (adr b1 b2 151, ent (D, adr b1 b2, ca) 151 (M0 151)) := rfl
set_option maxRecDepth 100000 in
theorem st_152 : (L0f ca b1 b2)[152]? = some (adr b1 b2 152, ent (D, adr b1 b2, ca) 152 (M0 152)) := rfl
set_option maxRecDepth 100000 in
theorem st_153 : (L0f ca b1 b2)[153]? = some (adr b1 b2 153, ent (D, adr b1 b2, ca) 153 (M0 153)) := rfl
theorem st_all : ∀ k ∈ List.range 154, ∃ e, (L0f ca b1 b2)[pt k]? = some (adr b1 b2 k, e) ∧ (k ≠ 135 → e = ent (D, adr b1 b2, ca) k (M0 k)) := by
  rw [show List.range 154 = [0, 1, 2, 3, 4, 5, 6, 7, 8, 9, 10, 11, 12, 13, 14, 15, 16, 17, 18, 19, 20, 21, 22, 23, 24, 25, 26, 27, 28, 29, 30, 31, 32, 33, 34, 35, 36, 37, 38, 39, 40, 41, 42, 43, 44, 45, 46, 47, 48, 49, 50, 51, 52, 53, 54, 55, 56, 57, 58, 59, 60, 61, 62, 63, 64, 65, 66, 67, 68, 69, 70, 71, 72, 73, 74, 75, 76, 77, 78, 79, 80, 81, 82, 83, 84, 85, 86, 87, 88, 89, 90, 91, 92, 93, 94, 95, 96, 97, 98, 99, 100, 101, 102, 103, 104, 105, 106, 107, 108, 109, 110, 111, 112, 113, 114, 115, 116, 117, 118, 119, 120, 121, 122, 123, 124, 125, 126, 127, 128, 129, 130, 131, 132, 133, 134, 135, 136, 137, 138, 139, 140, 141, 142, 143, 144, 145, 146, 147, 148, 149, 150, 151, 152, 153] from by decide +kernel]
  exact List.forall_mem_cons.mpr ⟨⟨_, st_0 D ca b1 b2, fun _ => rfl⟩, List.forall_mem_cons.mpr ⟨⟨_, st_1 D ca b1 b2, fun _ => rfl⟩, List.forall_mem_cons.mpr ⟨⟨_, st_2 D ca b1 b2, fun _ => rfl⟩, List.forall_mem_cons.mpr ⟨⟨_, st_3 D ca b1 b2, fun _ => rfl⟩, List.forall_mem_cons.mpr ⟨⟨_, st_4 D ca b1 b2, fun _ => rfl⟩, List.forall_mem_cons.mpr ⟨⟨_, st_5 D ca b1 b2, fun _ => rfl⟩, List.forall_mem_cons.mpr ⟨⟨_, st_6 D ca b1 b2, fun _ => rfl⟩, List.forall_mem_cons.mpr ⟨⟨_, st_7 D ca b1 b2, fun _ => rfl⟩, List.forall_mem_cons.mpr ⟨⟨_, st_8 D ca b1 b2, fun _ => rfl⟩, List.forall_mem_cons.mpr ⟨⟨_, st_9 D ca b1 b2, fun _ => rfl⟩, List.forall_mem_cons.mpr ⟨⟨_, st_10 D ca b1 b2, fun _ => rfl⟩, List.forall_mem_cons.mpr ⟨⟨_, st_11 D ca b1 b2, fun _ => rfl⟩, List.forall_mem_cons.mpr ⟨⟨_, st_12 D ca b1 b2, fun _ => rfl⟩, List.forall_mem_cons.mpr ⟨⟨_, st_13 D ca b1 b2, fun _ => rfl⟩, List.forall_mem_cons.mpr ⟨⟨_, st_14 D ca b1 b2, fun _ => rfl⟩, List.forall_mem_cons.mpr ⟨⟨_, st_15 D ca b1 b2, fun _ => rfl⟩, List.forall_mem_cons.mpr ⟨⟨_, st_16 D ca b1 b2, fun _ => rfl⟩, List.forall_mem_cons.mpr ⟨⟨_, st_17 D ca b1 b2, fun _ => rfl⟩, List.forall_mem_cons.mpr ⟨⟨_, st_18 D ca b1 b2, fun _ => rfl⟩, List.forall_mem_cons.mpr ⟨⟨_, st_19 D ca b1 b2, fun _ => rfl⟩, List.forall_mem_cons.mpr ⟨⟨_, st_20 D ca b1 b2, fun _ => rfl⟩, List.forall_mem_cons.mpr ⟨⟨_, st_21 D ca b1 b2, fun _ => rfl⟩, List.forall_mem_cons.mpr ⟨⟨_, st_22 D ca b1 b2, fun _ => rfl⟩, List.forall_mem_cons.mpr ⟨⟨_, st_23 D ca b1 b2, fun _ => rfl⟩, List.forall_mem_cons.mpr ⟨⟨_, st_24 D ca b1 b2, fun _ => rfl⟩, List.forall_mem_cons.mpr ⟨⟨_, st_25 D ca b1 b2, fun _ => rfl⟩, List.forall_mem_cons.mpr ⟨⟨_, st_26 D ca b1 b2, fun _ => rfl⟩, List.forall_mem_cons.mpr ⟨⟨_, st_27 D ca b1 b2, fun _ => rfl⟩, List.forall_mem_cons.mpr ⟨⟨_, st_28 D ca b1 b2, fun _ => rfl⟩, List.forall_mem_cons.mpr ⟨⟨_, st_29 D ca b1 b2, fun _ => rfl⟩, List.forall_mem_cons.mpr ⟨⟨_, st_30 D ca b1 b2, fun _ => rfl⟩, List.forall_mem_cons.mpr ⟨⟨_, st_31 D ca b1 b2, fun _ => rfl⟩, List.forall_mem_cons.mpr ⟨⟨_, st_32 D ca b1 b2, fun _ => rfl⟩, List.forall_mem_cons.mpr ⟨⟨_, st_33 D ca b1 b2, fun _ => rfl⟩, List.forall_mem_cons.mpr ⟨⟨_, st_34 D ca b1 b2, fun _ => rfl⟩, List.forall_mem_cons.mpr ⟨⟨_, st_35 D ca b1 b2, fun _ => rfl⟩, List.forall_mem_cons.mpr ⟨⟨_, st_36 D ca b1 b2, fun _ => rfl⟩, List.forall_mem_cons.mpr ⟨⟨_, st_37 D ca b1 b2, fun _ => rfl⟩, List.forall_mem_cons.mpr ⟨⟨_, st_38 D ca b1 b2, fun _ => rfl⟩, List.forall_mem_cons.mpr ⟨⟨_, st_39 D ca b1 b2, fun _ => rfl⟩, List.forall_mem_cons.mpr ⟨⟨_, st_40 D ca b1 b2, fun _ => rfl⟩, List.forall_mem_cons.mpr ⟨⟨_, st_41 D ca b1 b2, fun _ => rfl⟩, List.forall_mem_cons.mpr ⟨⟨_, st_42 D ca b1 b2, fun _ => rfl⟩, List.forall_mem_cons.mpr ⟨⟨_, st_43 D ca b1 b2, fun _ => rfl⟩, List.forall_mem_cons.mpr ⟨⟨_, st_44 D ca b1 b2, fun _ => rfl⟩, List.forall_mem_cons.mpr ⟨⟨_, st_45 D ca b1 b2, fun _ => rfl⟩, List.forall_mem_cons.mpr ⟨⟨_, st_46 D ca b1 b2, fun _ => rfl⟩, List.forall_mem_cons.mpr ⟨⟨_, st_47 D ca b1 b2, fun _ => rfl⟩, List.forall_mem_cons.mpr ⟨⟨_, st_48 D ca b1 b2, fun _ => rfl⟩, List.forall_mem_cons.mpr ⟨⟨_, st_49 D ca b1 b2, fun _ => rfl⟩, List.forall_mem_cons.mpr ⟨⟨_, st_50 D ca b1 b2, fun _ => rfl⟩, List.forall_mem_cons.mpr ⟨⟨_, st_51 D ca b1 b2, fun _ => rfl⟩, List.forall_mem_cons.mpr ⟨⟨_, st_52 D ca b1 b2, fun _ => rfl⟩, List.forall_mem_cons.mpr ⟨⟨_, st_53 D ca b1 b2, fun _ => rfl⟩, List.forall_mem_cons.mpr ⟨⟨_, st_54 D ca b1 b2, fun _ => rfl⟩, List.forall_mem_cons.mpr ⟨⟨_, st_55 D ca b1 b2, fun _ => rfl⟩, List.forall_mem_cons.mpr ⟨⟨_, st_56 D ca b1 b2, fun _ => rfl⟩, List.forall_mem_cons.mpr ⟨⟨_, st_57 D ca b1 b2, fun _ => rfl⟩, List.forall_mem_cons.mpr ⟨⟨_, st_58 D ca b1 b2, fun _ => rfl⟩, List.forall_mem_cons.mpr ⟨⟨_, st_59 D ca b1 b2, fun _ => rfl⟩, List.forall_mem_cons.mpr ⟨⟨_, st_60 D ca b1 b2, fun _ => rfl⟩, List.forall_mem_cons.mpr ⟨⟨_, st_61 D ca b1 b2, fun _ => rfl⟩, List.forall_mem_cons.mpr ⟨⟨_, st_62 D ca b1 b2, fun _ => rfl⟩, List.forall_mem_cons.mpr ⟨⟨_, st_63 D ca b1 b2, fun _ => rfl⟩, List.forall_mem_cons.mpr ⟨⟨_, st_64 D ca b1 b2, fun _ => rfl⟩, List.forall_mem_cons.mpr ⟨⟨_, st_65 D ca b1 b2, fun _ => rfl⟩, List.forall_mem_cons.mpr ⟨⟨_, st_66 D ca b1 b2, fun _ => rfl⟩, List.forall_mem_cons.mpr ⟨⟨_, st_67 D ca b1 b2, fun _ => rfl⟩, List.forall_mem_cons.mpr ⟨⟨_, st_68 D ca b1 b2, fun _ => rfl⟩, List.forall_mem_cons.mpr ⟨⟨_, st_69 D ca b1 b2, fun _ => rfl⟩, List.forall_mem_cons.mpr ⟨⟨_, st_70 D ca b1 b2, fun _ => rfl⟩, List.forall_mem_cons.mpr ⟨⟨_, st_71 D ca b1 b2, fun _ => rfl⟩, List.forall_mem_cons.mpr ⟨⟨_, st_72 D ca b1 b2, fun _ => rfl⟩, List.forall_mem_cons.mpr ⟨⟨_, st_73 D ca b1 b2, fun _ => rfl⟩, List.forall_mem_cons.mpr ⟨⟨_, st_74 D ca b1 b2, fun _ => rfl⟩, List.forall_mem_cons.mpr ⟨⟨_, st_75 D ca b1 b2, fun _ => rfl⟩, List.forall_mem_cons.mpr ⟨⟨_, st_76 D ca b1 b2, fun _ => rfl⟩, List.forall_mem_cons.mpr ⟨⟨_, st_77 D ca b1 b2, fun _ => rfl⟩, List.forall_mem_cons.mpr ⟨⟨_, st_78 D ca b1 b2, fun _ => rfl⟩, List.forall_mem_cons.mpr ⟨⟨_, st_79 D ca b1 b2, fun _ => rfl⟩, List.forall_mem_cons.mpr ⟨⟨_, st_80 D ca b1 b2, fun _ => rfl⟩, List.forall_mem_cons.mpr ⟨⟨_, st_81 D ca b1 b2, fun _ => rfl⟩, List.forall_mem_cons.mpr ⟨⟨_, st_82 D ca b1 b2, fun _ => rfl⟩, List.forall_mem_cons.mpr ⟨⟨_, st_83 D ca b1 b2, fun _ => rfl⟩, List.forall_mem_cons.mpr ⟨⟨_, st_84 D ca b1 b2, fun _ => rfl⟩, List.forall_mem_cons.mpr ⟨⟨_, st_85 D ca b1 b2, fun _ => rfl⟩, List.forall_mem_cons.mpr ⟨⟨_, st_86 D ca b1 b2, fun _ => rfl⟩, List.forall_mem_cons.mpr ⟨⟨_, st_87 D ca b1 b2, fun _ => rfl⟩, List.forall_mem_cons.mpr ⟨⟨_, st_88 D ca b1 b2, fun _ => rfl⟩, List.forall_mem_cons.mpr ⟨⟨_, st_89 D ca b1 b2, fun _ => rfl⟩, List.forall_mem_cons.mpr ⟨⟨_, st_90 D ca b1 b2, fun _ => rfl⟩, List.forall_mem_cons.mpr ⟨⟨_, st_91 D ca b1 b2, fun _ => rfl⟩, List.forall_mem_cons.mpr ⟨⟨_, st_92 D ca b1 b2, fun _ => rfl⟩, List.forall_mem_cons.mpr ⟨⟨_, st_93 D ca b1 b2, fun _ => rfl⟩, List.forall_mem_cons.mpr ⟨⟨_, st_94 D ca b1 b2, fun _ => rfl⟩, List.forall_mem_cons.mpr ⟨⟨_, st_95 D ca b1 b2, fun _ => rfl⟩, List.forall_mem_cons.mpr ⟨⟨_, st_96 D ca b1 b2, fun _ => rfl⟩, List.forall_mem_cons.mpr ⟨⟨_, st_97 D ca b1 b2, fun _ => rfl⟩, List.forall_mem_cons.mpr ⟨⟨_, st_98 D ca b1 b2, fun _ => rfl⟩, List.forall_mem_cons.mpr ⟨⟨_, st_99 D ca b1 b2, fun _ => rfl⟩, List.forall_mem_cons.mpr ⟨⟨_, st_100 D ca b1 b2, fun _ => rfl⟩, List.forall_mem_cons.mpr ⟨⟨_, st_101 D ca b1 b2, fun _ => rfl⟩, List.forall_mem_cons.mpr ⟨⟨_, st_102 D ca b1 b2, fun _ => rfl⟩, List.forall_mem_cons.mpr ⟨⟨_, st_103 D ca b1 b2, fun _ => rfl⟩, List.forall_mem_cons.mpr ⟨⟨_, st_104 D ca b1 b2, fun _ => rfl⟩, List.forall_mem_cons.mpr ⟨⟨_, st_105 D ca b1 b2, fun _ => rfl⟩, List.forall_mem_cons.mpr ⟨⟨_, st_106 D ca b1 b2, fun _ => rfl⟩, List.forall_mem_cons.mpr ⟨⟨_, st_107 D ca b1 b2, fun _ => rfl⟩, List.forall_mem_cons.mpr ⟨⟨_, st_108 D ca b1 b2, fun _ => rfl⟩, List.forall_mem_cons.mpr ⟨⟨_, st_109 D ca b1 b2, fun _ => rfl⟩, List.forall_mem_cons.mpr ⟨⟨_, st_110 D ca b1 b2, fun _ => rfl⟩, List.forall_mem_cons.mpr ⟨⟨_, st_111 D ca b1 b2, fun _ => rfl⟩, List.forall_mem_cons.mpr ⟨⟨_, st_112 D ca b1 b2, fun _ => rfl⟩, List.forall_mem_cons.mpr ⟨⟨_, st_113 D ca b1 b2, fun _ => rfl⟩, List.forall_mem_cons.mpr ⟨⟨_, st_114 D ca b1 b2, fun _ => rfl⟩, List.forall_mem_cons.mpr ⟨⟨_, st_115 D ca b1 b2, fun _ => rfl⟩, List.forall_mem_cons.mpr ⟨⟨_, st_116 D ca b1 b2, fun _ => rfl⟩, List.forall_mem_cons.mpr ⟨⟨_, st_117 D ca b1 b2, fun _ => rfl⟩, List.forall_mem_cons.mpr ⟨⟨_, st_118 D ca b1 b2, fun _ => rfl⟩, List.forall_mem_cons.mpr ⟨⟨_, st_119 D ca b1 b2, fun _ => rfl⟩, List.forall_mem_cons.mpr ⟨⟨_, st_120 D ca b1 b2, fun _ => rfl⟩, List.forall_mem_cons.mpr ⟨⟨_, st_121 D ca b1 b2, fun _ => rfl⟩, List.forall_mem_cons.mpr ⟨⟨_, st_122 D ca b1 b2, fun _ => rfl⟩, List.forall_mem_cons.mpr ⟨⟨_, st_123 D ca b1 b2, fun _ => rfl⟩, List.forall_mem_cons.mpr ⟨⟨_, st_124 D ca b1 b2, fun _ => rfl⟩, List.forall_mem_cons.mpr ⟨⟨_, st_125 D ca b1 b2, fun _ => rfl⟩, List.forall_mem_cons.mpr ⟨⟨_, st_126 D ca b1 b2, fun _ => rfl⟩, List.forall_mem_cons.mpr ⟨⟨_, st_127 D ca b1 b2, fun _ => rfl⟩, List.forall_mem_cons.mpr ⟨⟨_, st_128 D ca b1 b2, fun _ => rfl⟩, List.forall_mem_cons.mpr ⟨⟨_, st_129 D ca b1 b2, fun _ => rfl⟩, List.forall_mem_cons.mpr ⟨⟨_, st_130 D ca b1 b2, fun _ => rfl⟩, List.forall_mem_cons.mpr ⟨⟨_, st_131 D ca b1 b2, fun _ => rfl⟩, List.forall_mem_cons.mpr ⟨⟨_, st_132 D ca b1 b2, fun _ => rfl⟩, List.forall_mem_cons.mpr ⟨⟨_, st_133 D ca b1 b2, fun _ => rfl⟩, List.forall_mem_cons.mpr ⟨⟨_, st_134 D ca b1 b2, fun _ => rfl⟩, List.forall_mem_cons.mpr ⟨⟨_, st_135 ca b1 b2, fun h => absurd rfl h⟩, List.forall_mem_cons.mpr ⟨⟨_, st_136 D ca b1 b2, fun _ => rfl⟩, List.forall_mem_cons.mpr ⟨⟨_, st_137 D ca b1 b2, fun _ => rfl⟩, List.forall_mem_cons.mpr ⟨⟨_, st_138 D ca b1 b2, fun _ => rfl⟩, List.forall_mem_cons.mpr ⟨⟨_, st_139 D ca b1 b2, fun _ => rfl⟩, List.forall_mem_cons.mpr ⟨⟨_, st_140 D ca b1 b2, fun _ => rfl⟩, List.forall_mem_cons.mpr ⟨⟨_, st_141 D ca b1 b2, fun _ => rfl⟩, List.forall_mem_cons.mpr ⟨⟨_, st_142 D ca b1 b2, fun _ => rfl⟩, List.forall_mem_cons.mpr ⟨⟨_, st_143 D ca b1 b2, fun _ => rfl⟩, List.forall_mem_cons.mpr ⟨⟨_, st_144 D ca b1 b2, fun _ => rfl⟩, List.forall_mem_cons.mpr ⟨⟨_, st_145 D ca b1 b2, fun _ => rfl⟩, List.forall_mem_cons.mpr ⟨⟨_, st_146 D ca b1 b2, fun _ => rfl⟩, List.forall_mem_cons.mpr ⟨⟨_, st_147 D ca b1 b2, fun _ => rfl⟩, List.forall_mem_cons.mpr ⟨⟨_, st_148 D ca b1 b2, fun _ => rfl⟩, List.forall_mem_cons.mpr ⟨⟨_, st_149 D ca b1 b2, fun _ => rfl⟩, List.forall_mem_cons.mpr ⟨⟨_, st_150 D ca b1 b2, fun _ => rfl⟩, List.forall_mem_cons.mpr ⟨⟨_, st_151 D ca b1 b2, fun _ => rfl⟩, List.forall_mem_cons.mpr ⟨⟨_, st_152 D ca b1 b2, fun _ => rfl⟩, List.forall_mem_cons.mpr ⟨⟨_, st_153 D ca b1 b2, fun _ => rfl⟩, fun _ h => absurd h List.not_mem_nil⟩⟩⟩⟩⟩⟩⟩⟩⟩⟩⟩⟩⟩⟩⟩⟩⟩⟩⟩⟩⟩⟩⟩⟩⟩⟩⟩⟩⟩⟩⟩⟩⟩⟩⟩⟩⟩⟩⟩⟩⟩⟩⟩⟩⟩⟩⟩⟩⟩⟩⟩⟩⟩⟩⟩⟩⟩⟩⟩⟩⟩⟩⟩⟩⟩⟩⟩⟩⟩⟩⟩⟩⟩⟩⟩⟩⟩⟩⟩⟩⟩⟩⟩⟩⟩⟩⟩⟩⟩⟩⟩⟩⟩⟩⟩⟩⟩⟩⟩⟩⟩⟩⟩⟩⟩⟩⟩⟩⟩⟩⟩⟩⟩⟩⟩⟩⟩⟩⟩⟩⟩⟩⟩⟩⟩⟩⟩⟩⟩⟩⟩⟩⟩⟩⟩⟩⟩⟩⟩⟩⟩⟩⟩⟩⟩⟩⟩⟩⟩⟩⟩⟩⟩⟩
end st
theorem start_P {D : va_G} {ca : Nat → ClassId} {z b1 b2 : Nat → Nat} {H : Heap} (hP : va_P D CL (L0 (D, z, ca) b1 b2) H) : va_P D CL (wl (D, adr b1 b2, ca) M0) H := by
  rw [L0_flat] at hP
  intro k q hk
  obtain ⟨h1, rfl⟩ := wl_inv hk
  obtain ⟨e, he, hq⟩ := st_all D ca b1 b2 k (List.mem_range.mpr h1)
  by_cases h135 : k = 135
  · subst h135
    have h2 := hP _ _ (st_135 ca b1 b2)
    show H[_]? = some (vp_cell _ _)
    refine (show H[_]? = some (vp_cell _ _) from h2).trans (congrArg some ?_)
    rw [vp_cell_q, vp_cell_q]
    refine arr_ext (fun j hj => ?_)
    rcases (show j = 0 ∨ j = 1 ∨ j = 2 ∨ j = 3 by omega) with rfl | rfl | rfl | rfl <;> rfl
  · rw [← hq h135]
    exact hP _ _ he
theorem start_I {D : va_G} {ca : Nat → ClassId} {z b1 b2 : Nat → Nat} {A : Nat → Prop} (hD : va_D A (L0 (D, z, ca) b1 b2)) : Inj (D, adr b1 b2, ca) := by
  rw [L0_flat] at hD
  intro i j hi hj hij
  obtain ⟨e, he, -⟩ := st_all D ca b1 b2 i (List.mem_range.mpr hi)
  obtain ⟨f, hf, -⟩ := st_all D ca b1 b2 j (List.mem_range.mpr hj)
  exact pt_inj i hi j hj (hD.1 _ _ _ _ he hf hij)
theorem start_A {D : va_G} {ca : Nat → ClassId} {z b1 b2 : Nat → Nat} {A : Nat → Prop} (hD : va_D A (L0 (D, z, ca) b1 b2)) : ∀ q, AA (D, adr b1 b2, ca) q → A q := by
  rw [L0_flat] at hD
  rintro q ⟨i, hi, rfl⟩
  obtain ⟨e, he, -⟩ := st_all D ca b1 b2 i (List.mem_range.mpr hi)
  exact hD.2 _ _ he
