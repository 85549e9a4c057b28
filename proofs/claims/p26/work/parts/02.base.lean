/-! BASE: one memory M (object number, place) for all objects of class and reference; the world as a list over the object numbers -/
abbrev Mem : Type := Nat → Nat → Int32
def mset (M : Mem) (i : Nat) (f : Nat → Int32) : Mem := fun a => if a = i then f else M a
def mup (M : Mem) (i j : Nat) (v : Int32) : Mem := mset M i (upd (M i) j v)
abbrev Ans : Type := Option (Int32 × Mem)
abbrev Cy : Type := va_G × (Nat → Nat) × (Nat → ClassId)
def NWc : Nat := 154
def sI (k j : Nat) : Nat := 16 * k + j
def cI (c j : Nat) : Nat := 112 + 10 * c + j
def CL : List vw_C := [(RX0, TX0, 6), (RX1, TX1, 17), (RX2, TX2, 2), (RX3, TX3, 4), (RX4, TX4, 5), (RX5, TX5, 10), (RX6, TX6, 7), (RX7, TX7, 4), (RX8, TX8, 9), (RX9, TX9, 24)]
def TT : List Cond := lw_tbl.filter goodWord
theorem TT_good : GoodIn TT TT := fun w hw => ⟨hw, good_of_word (List.mem_filter.mp hw).2⟩
theorem tt_mem {w : Cond} (i : Nat) (h : tables_1[i]? = some w) (hg : goodWord w = true) : w ∈ TT := List.mem_filter.mpr ⟨List.mem_append_right _ (List.mem_of_getElem? h), hg⟩
theorem tt_sel {q : MethodName × Nat} (j : Nat) (h : lw_privs[j]? = some q) : Cond.selects q.1.cls q.1 q.1 ∈ TT := List.mem_filter.mpr ⟨List.mem_append_left _ (List.mem_map.mpr ⟨q, List.mem_of_getElem? h, rfl⟩), rfl⟩
def stE (y : Cy) (k j : Nat) (m : Nat → Int32) : va_E := match j with
  | 0 => .inr (5, [.int (m 0), .int (m 1), .int (m 2), .int (m 3), .int (m 4), .int (m 5), .int (m 6), .ref (y.2.1 (sI k 1)), .ref (y.2.1 (sI k 6)), .ref (y.2.1 (sI k 12))])
  | 1 => .inr (4, [.int (m 0), .ref (y.2.1 (sI k 2)), .ref (y.2.1 (sI k 3)), .ref (y.2.1 (sI k 4)), .ref (y.2.1 (sI k 5))])
  | 2 => .inl (y.2.2 0, (8, .inl m))
  | 3 => .inl (y.2.2 0, (8, .inl m))
  | 4 => .inl (y.2.2 0, (8, .inl m))
  | 5 => .inl (y.2.2 0, (8, .inl m))
  | 6 => .inr (0, [.int (m 0), .ref (y.2.1 (sI k 7)), .ref (y.2.1 (sI k 8)), .ref (y.2.1 (sI k 9)), .ref (y.2.1 (sI k 10)), .ref (y.2.1 (sI k 11))])
  | 12 => .inr (7, [.int (m 0), .ref (y.2.1 (sI k 13)), .ref (y.2.1 (sI k 14)), .ref (y.2.1 (sI k 15))])
  | 13 => .inl (y.2.2 0, (8, .inl m))
  | 14 => .inl (y.2.2 0, (8, .inl m))
  | 15 => .inl (y.2.2 0, (8, .inl m))
  | _ => .inl (y.2.2 0, (60, .inl m))
def coE (y : Cy) (c j : Nat) (m : Nat → Int32) : va_E := match j with
  | 0 => .inr (1, [.int (m 0), .int (m 1), .int (m 2), .int (m 3), .int (m 4), .int (m 5), .int (m 6), .int (m 7), .ref (y.2.1 (cI c 1)), .ref (y.2.1 (cI c 2)), .ref (y.2.1 (cI c 3)), .ref (y.2.1 (cI c 4)), .ref (y.2.1 (cI c 5)), .ref (y.2.1 (cI c 6)), .ref (y.2.1 (cI c 7)), .ref (y.2.1 (cI c 8)), .ref (y.2.1 (cI c 9))])
  | _ => .inl (y.2.2 0, (61, .inl m))
def mlE (y : Cy) (i : Nat) (m : Nat → Int32) : va_E := match i with
  | 132 => .inr (3, [.ref (y.2.1 (cI 1 0)), .ref (y.2.1 133), .int (m 2), .int (m 3)])
  | 133 => .inl (y.2.2 1, (60, .inl m))
  | 134 => .inr (2, [.ref (y.2.1 135), .int (m 1)])
  | 135 => .inl (y.2.2 3, (4, .inr (.inr (.inr (.inr (fun j => some (y.2.1 (sI (m j).toNatClampNeg 0))))))))
  | 136 => .inr (6, [.ref (y.2.1 137), .int (m 1), .int (m 2), .ref (y.2.1 138), .ref (y.2.1 139), .ref (y.2.1 140), .int (m 6)])
  | 137 => .inl (y.2.2 2, (60, .inl m))
  | 138 => .inl (y.2.2 0, (10, .inl m))
  | 139 => .inl (y.2.2 0, (10, .inl m))
  | 140 => .inl (y.2.2 0, (10, .inl m))
  | 141 => .inr (8, [.ref (y.2.1 (sI 0 0)), .ref (y.2.1 (sI 1 0)), .ref (y.2.1 (sI 2 0)), .int (m 3), .ref (y.2.1 134), .ref (y.2.1 136), .ref (y.2.1 (cI 0 0)), .ref (y.2.1 132), .ref (y.2.1 142)])
  | 142 => .inl (y.2.2 1, (60, .inl m))
  | 143 => .inr (9, [.ref (y.2.1 144), .ref (y.2.1 145), .int (m 2), .ref (y.2.1 146), .int (m 4), .ref (y.2.1 147), .ref (y.2.1 148), .ref (y.2.1 149), .ref (y.2.1 150), .ref (y.2.1 151), .int (m 10), .int (m 11), .int (m 12), .int (m 13), .int (m 14), .int (m 15), .int (m 16), .ref (y.2.1 152), .int (m 18), .ref (y.2.1 153), .int (m 20), .int (m 21), .int (m 22), .int (m 23)])
  | 144 => .inl (y.2.2 0, (366, .inl m))
  | 145 => .inl (y.2.2 0, (1464, .inl m))
  | 146 => .inl (y.2.2 0, (366, .inl m))
  | 147 => .inl (y.2.2 0, (366, .inl m))
  | 148 => .inl (y.2.2 0, (61, .inl m))
  | 149 => .inl (y.2.2 0, (61, .inl m))
  | 150 => .inl (y.2.2 0, (61, .inl m))
  | 151 => .inl (y.2.2 0, (61, .inl m))
  | 152 => .inl (y.2.2 1, (60, .inl m))
  | 153 => .inl (y.2.2 2, (60, .inl m))
  | _ => .inl (y.2.2 0, (0, .inl m))
def ent (y : Cy) (i : Nat) (m : Nat → Int32) : va_E := if i < 112 then stE y (i / 16) (i % 16) m else if i < 132 then coE y ((i - 112) / 10) ((i - 112) % 10) m else mlE y i m
theorem ent_s {y : Cy} {k : Nat} (hk : k < 7) (j : Nat) (hj : j < 16) : ent y (sI k j) = stE y k j := by
  funext m
  unfold ent sI
  rw [if_pos (by omega), show (16 * k + j) / 16 = k by omega, show (16 * k + j) % 16 = j by omega]
theorem ent_c {y : Cy} {c : Nat} (hc : c < 2) (j : Nat) (hj : j < 10) : ent y (cI c j) = coE y c j := by
  funext m
  unfold ent cI
  rw [if_neg (by omega), if_pos (by omega), show (112 + 10 * c + j - 112) / 10 = c by omega, show (112 + 10 * c + j - 112) % 10 = j by omega]
theorem ent_m {y : Cy} {i : Nat} (h : 132 ≤ i) : ent y i = mlE y i := by
  funext m
  unfold ent
  rw [if_neg (by omega), if_neg (by omega)]
theorem ids_s {k : Nat} (hk : k < 7) (j : Nat) (hj : j < 16) : sI k j < NWc := by unfold sI NWc; omega
theorem ids_c {c : Nat} (hc : c < 2) (j : Nat) (hj : j < 10) : cI c j < NWc := by unfold cI NWc; omega
def wl (y : Cy) (M : Mem) : va_W := (List.range NWc).map (fun i => (y.2.1 i, ent y i (M i)))
theorem wl_get {y : Cy} {M : Mem} {i : Nat} (h : i < NWc) : (wl y M)[i]? = some (y.2.1 i, ent y i (M i)) := by
  unfold wl
  rw [List.getElem?_map, List.getElem?_range h]
  rfl
theorem wl_set {y : Cy} {M : Mem} {i : Nat} (h : i < NWc) (f : Nat → Int32) : (wl y M).set i (y.2.1 i, ent y i f) = wl y (mset M i f) := by
  apply List.ext_getElem?
  intro n
  by_cases hn : n = i
  · subst hn
    rw [List.getElem?_set_self (by unfold wl; rw [List.length_map, List.length_range]; exact h), wl_get h]
    simp [mset]
  · rw [List.getElem?_set_ne (Ne.symm hn)]
    by_cases hl : n < NWc
    · rw [wl_get hl, wl_get hl]
      simp [mset, hn]
    · unfold wl
      rw [List.getElem?_eq_none (by simp; omega), List.getElem?_eq_none (by simp; omega)]
def AA (y : Cy) : Nat → Prop := fun q => ∃ i, i < NWc ∧ q = y.2.1 i
def Inj (y : Cy) : Prop := ∀ i j, i < NWc → j < NWc → y.2.1 i = y.2.1 j → i = j
theorem wl_inv {y : Cy} {M : Mem} {k : Nat} {q : Nat × va_E} (h : (wl y M)[k]? = some q) : k < NWc ∧ q = (y.2.1 k, ent y k (M k)) := by
  have hk : k < NWc := by
    have := (List.getElem?_eq_some_iff.mp h).1
    unfold wl at this
    rw [List.length_map, List.length_range] at this
    exact this
  rw [wl_get hk] at h
  exact ⟨hk, (Option.some.inj h).symm⟩
theorem wl_D {y : Cy} (hy : Inj y) {A : Nat → Prop} (hA : ∀ q, AA y q → A q) (M : Mem) : va_D A (wl y M) := by
  refine ⟨fun i j p q hi hj hpq => ?_, fun k q hk => ?_⟩
  · obtain ⟨h1, rfl⟩ := wl_inv hi
    obtain ⟨h2, rfl⟩ := wl_inv hj
    exact hy i j h1 h2 hpq
  · obtain ⟨h1, rfl⟩ := wl_inv hk
    exact hA _ ⟨k, h1, rfl⟩
def tyl (y : Cy) : List (ClassId × FieldType) := [(y.2.2 0, .int), (y.2.2 1, .boolean), (y.2.2 2, .char), (y.2.2 3, .object "BoilerBook$State")]
/-- where a method stands: machine, launch, env, room, state, method, arguments, frames below, its method and code; new cells and slots so far, locals; what may be written, and what the end must be -/
abbrev Cx : Type := (Program × Launch × Env × Room × State) × (MethodId × Array Value × List Frame × Method × Code) × (Nat × Nat × Nat × (Nat → Prop) × (Int32 → Mem → State → Prop))
def WW (x : Cx) (H : Heap) (locs : List Loc) (Q : State → Prop) (g : JFrame) : Prop := W x.1.1 x.1.2.1 x.1.2.2.1 x.1.2.2.2.1 x.1.2.2.2.2 x.2.1.1 x.2.1.2.1 x.2.1.2.2.1 x.2.1.2.2.2.1 x.2.1.2.2.2.2 H locs x.2.2.1 x.2.2.2.1 Q g
def Ok (x : Cx) (y : Cy) (cc : ByteArray) (own : String) : Prop :=
  x.1.1.tables.exec = Jvm.exec ∧ x.2.1.2.2.2.2.code = cc ∧ x.2.1.2.2.2.2.maxLocals = x.2.2.2.2.1 ∧ x.1.2.2.2.2.vm.findClass own = some x.2.1.1.cls ∧ (∀ w ∈ TT, w.before x.2.1.2.1 x.1.2.2.2.2 = true) ∧ va_K y.1 CL (tyl y) x.1.2.2.2.2 ∧ Inj y ∧ (∀ q, AA y q → x.2.2.2.2.2.1 q) ∧ x.2.2.1 ≤ x.1.2.2.2.1.cells ∧ x.2.2.2.1 ≤ x.1.2.2.2.1.slots
def G (x : Cx) (y : Cy) (pc : Nat) (lv : List (Nat × Value)) (st : List Value) (M : Mem) (o : Ans) : Prop :=
  ∀ r M', o = some (r, M') → ∀ (H : Heap) (locs : List Loc) (ls : Array Slot), va_P y.1 CL (wl y M) H → va_S x.2.2.2.2.2.1 x.1.2.2.2.2.heap H locs → lv_has ls x.2.2.2.2.1 lv → WW x H locs (x.2.2.2.2.2.2 r M') (F0 x.2.1.1 pc ls st)
theorem G_none {x : Cx} {y : Cy} {pc : Nat} {lv : List (Nat × Value)} {st : List Value} {M : Mem} : G x y pc lv st M none := fun _ _ h => by cases h
def bnd {α : Type} (a : α) (k : α → Ans) : Ans := k a
def bd (o : Ans) (k : Int32 → Mem → Ans) : Ans := match o with
  | none => none
  | some q => k q.1 q.2
def chk (i : Int32) (n : Nat) (o : Ans) : Ans := if i < 0 ∨ n ≤ i.toNatClampNeg then none else o
def stk (v : Int32) (k : Nat → Ans) : Ans := if v.toNatClampNeg < 7 then k v.toNatClampNeg else none
def nar (ty : FieldType) (v : Int32) (o : Ans) : Ans := if narrow ty (.int v) = .int v then o else none
theorem G_iadd {x : Cx} {y : Cy} {cc : ByteArray} {own : String} (h : Ok x y cc own) {pc : Nat} {lv : List (Nat × Value)} {st : List Value} {M : Mem} {o : Ans} {a b : Int32} (hd : decode cc pc = .ok (.iadd, 1)) (kk : G x y (pc + 1) lv (.int (a + b) :: st) M o) : G x y pc lv (.int b :: .int a :: st) M o := by
  intro r M' ho H locs ls hP hS hl
  exact lv_iadd h.1 h.2.1 hd  (kk r M' ho H locs ls hP hS hl)
theorem G_isub {x : Cx} {y : Cy} {cc : ByteArray} {own : String} (h : Ok x y cc own) {pc : Nat} {lv : List (Nat × Value)} {st : List Value} {M : Mem} {o : Ans} {a b : Int32} (hd : decode cc pc = .ok (.isub, 1)) (kk : G x y (pc + 1) lv (.int (a - b) :: st) M o) : G x y pc lv (.int b :: .int a :: st) M o := by
  intro r M' ho H locs ls hP hS hl
  exact lv_isub h.1 h.2.1 hd  (kk r M' ho H locs ls hP hS hl)
theorem G_imul {x : Cx} {y : Cy} {cc : ByteArray} {own : String} (h : Ok x y cc own) {pc : Nat} {lv : List (Nat × Value)} {st : List Value} {M : Mem} {o : Ans} {a b : Int32} (hd : decode cc pc = .ok (.imul, 1)) (kk : G x y (pc + 1) lv (.int (a * b) :: st) M o) : G x y pc lv (.int b :: .int a :: st) M o := by
  intro r M' ho H locs ls hP hS hl
  exact lv_imul h.1 h.2.1 hd  (kk r M' ho H locs ls hP hS hl)
theorem G_iand {x : Cx} {y : Cy} {cc : ByteArray} {own : String} (h : Ok x y cc own) {pc : Nat} {lv : List (Nat × Value)} {st : List Value} {M : Mem} {o : Ans} {a b : Int32} (hd : decode cc pc = .ok (.iand, 1)) (kk : G x y (pc + 1) lv (.int (a &&& b) :: st) M o) : G x y pc lv (.int b :: .int a :: st) M o := by
  intro r M' ho H locs ls hP hS hl
  exact lv_iand h.1 h.2.1 hd  (kk r M' ho H locs ls hP hS hl)
theorem G_iconst {x : Cx} {y : Cy} {cc : ByteArray} {own : String} (h : Ok x y cc own) {pc : Nat} {lv : List (Nat × Value)} {st : List Value} {M : Mem} {o : Ans} {n : Int} {v : Int32} (hd : decode cc pc = .ok (.iconst n, 1)) (hv : Int32.ofInt n = v) (kk : G x y (pc + 1) lv (.int v :: st) M o) : G x y pc lv st M o := by
  intro r M' ho H locs ls hP hS hl
  exact lv_iconst h.1 h.2.1 hd hv (kk r M' ho H locs ls hP hS hl)
theorem G_bipush {x : Cx} {y : Cy} {cc : ByteArray} {own : String} (h : Ok x y cc own) {pc : Nat} {lv : List (Nat × Value)} {st : List Value} {M : Mem} {o : Ans} {n : Int} {v : Int32} (hd : decode cc pc = .ok (.bipush n, 2)) (hv : (Int8.ofInt n).toInt32 = v) (kk : G x y (pc + 2) lv (.int v :: st) M o) : G x y pc lv st M o := by
  intro r M' ho H locs ls hP hS hl
  exact lv_bipush h.1 h.2.1 hd hv (kk r M' ho H locs ls hP hS hl)
theorem G_sipush {x : Cx} {y : Cy} {cc : ByteArray} {own : String} (h : Ok x y cc own) {pc : Nat} {lv : List (Nat × Value)} {st : List Value} {M : Mem} {o : Ans} {n : Int} {v : Int32} (hd : decode cc pc = .ok (.sipush n, 3)) (hv : (Int16.ofInt n).toInt32 = v) (kk : G x y (pc + 3) lv (.int v :: st) M o) : G x y pc lv st M o := by
  intro r M' ho H locs ls hP hS hl
  exact lv_sipush h.1 h.2.1 hd hv (kk r M' ho H locs ls hP hS hl)
theorem G_i2c {x : Cx} {y : Cy} {cc : ByteArray} {own : String} (h : Ok x y cc own) {pc : Nat} {lv : List (Nat × Value)} {st : List Value} {M : Mem} {o : Ans} {a : Int32} (hd : decode cc pc = .ok (.i2c, 1)) (kk : G x y (pc + 1) lv (.int ((a.toUInt32 % 65536).toInt32) :: st) M o) : G x y pc lv (.int a :: st) M o := by
  intro r M' ho H locs ls hP hS hl
  exact lv_i2c h.1 h.2.1 hd rfl (kk r M' ho H locs ls hP hS hl)
theorem G_dup {x : Cx} {y : Cy} {cc : ByteArray} {own : String} (h : Ok x y cc own) {pc : Nat} {lv : List (Nat × Value)} {st : List Value} {M : Mem} {o : Ans} {v : Value} (hd : decode cc pc = .ok (.dup, 1)) (hv : v.category = 1) (kk : G x y (pc + 1) lv (v :: v :: st) M o) : G x y pc lv (v :: st) M o := by
  intro r M' ho H locs ls hP hS hl
  exact lv_dup h.1 h.2.1 hd hv (kk r M' ho H locs ls hP hS hl)
theorem G_pop {x : Cx} {y : Cy} {cc : ByteArray} {own : String} (h : Ok x y cc own) {pc : Nat} {lv : List (Nat × Value)} {st : List Value} {M : Mem} {o : Ans} {v : Value} (hd : decode cc pc = .ok (.pop, 1)) (hv : v.category = 1) (kk : G x y (pc + 1) lv st M o) : G x y pc lv (v :: st) M o := by
  intro r M' ho H locs ls hP hS hl
  exact lv_pop h.1 h.2.1 hd hv (kk r M' ho H locs ls hP hS hl)
theorem G_dup2 {x : Cx} {y : Cy} {cc : ByteArray} {own : String} (h : Ok x y cc own) {pc : Nat} {lv : List (Nat × Value)} {st : List Value} {M : Mem} {o : Ans} {v w : Value} (hd : decode cc pc = .ok (.dup2, 1)) (hv : v.category = 1) (hw : w.category = 1) (kk : G x y (pc + 1) lv (v :: w :: v :: w :: st) M o) : G x y pc lv (v :: w :: st) M o := by
  intro r M' ho H locs ls hP hS hl
  exact lv_dup2_11 h.1 h.2.1 hd hv hw (kk r M' ho H locs ls hP hS hl)
theorem G_ldc {x : Cx} {y : Cy} {cc : ByteArray} {own : String} (h : Ok x y cc own) {pc : Nat} {lv : List (Nat × Value)} {st : List Value} {M : Mem} {o : Ans} {n : Nat} {v : Int32} (hd : decode cc pc = .ok (.ldc n, 2)) (hw : Cond.constant own n v ∈ TT) (kk : G x y (pc + 2) lv (.int v :: st) M o) : G x y pc lv st M o := by
  intro r M' ho H locs ls hP hS hl
  exact lv_ldc h.1 h.2.1 h.2.2.2.1 (h.2.2.2.2.1 _ hw) hd (kk r M' ho H locs ls hP hS hl)
theorem G_goto {x : Cx} {y : Cy} {cc : ByteArray} {own : String} (h : Ok x y cc own) {pc : Nat} {lv : List (Nat × Value)} {st : List Value} {M : Mem} {o : Ans} {off : Int} {tgt : Nat} (hd : decode cc pc = .ok (.goto off, 3)) (ht : (pc : Int) + off = (tgt : Int)) (kk : G x y tgt lv st M o) : G x y pc lv st M o := by
  intro r M' ho H locs ls hP hS hl
  exact lv_goto h.1 h.2.1 hd ht (kk r M' ho H locs ls hP hS hl)
theorem G_ifnull {x : Cx} {y : Cy} {cc : ByteArray} {own : String} (h : Ok x y cc own) {pc : Nat} {lv : List (Nat × Value)} {st : List Value} {M : Mem} {o : Ans} {q : Nat} {off : Int} (hd : decode cc pc = .ok (.ifnull off, 3)) (kk : G x y (pc + 3) lv st M o) : G x y pc lv (.ref q :: st) M o := by
  intro r M' ho H locs ls hP hS hl
  exact lv_ifnull h.1 h.2.1 hd (kk r M' ho H locs ls hP hS hl)
theorem G_iload_n {x : Cx} {y : Cy} {cc : ByteArray} {own : String} (h : Ok x y cc own) {pc : Nat} {lv : List (Nat × Value)} {st : List Value} {M : Mem} {o : Ans} {k : Fin 4} {i : Nat} {v : Int32} (hd : decode cc pc = .ok (.iload_n k, 1)) (hi : (k : Nat) = i) (j : Nat) (hj : lv[j]? = some (i, .int v)) (kk : G x y (pc + 1) lv (.int v :: st) M o) : G x y pc lv st M o := by
  intro r M' ho H locs ls hP hS hl
  exact lv_iload_n h.1 h.2.1 hd hi (lv_at hl j hj) (kk r M' ho H locs ls hP hS hl)
theorem G_iload {x : Cx} {y : Cy} {cc : ByteArray} {own : String} (h : Ok x y cc own) {pc : Nat} {lv : List (Nat × Value)} {st : List Value} {M : Mem} {o : Ans} {i : Nat} {v : Int32} (hd : decode cc pc = .ok (.iload i, 2)) (j : Nat) (hj : lv[j]? = some (i, .int v)) (kk : G x y (pc + 2) lv (.int v :: st) M o) : G x y pc lv st M o := by
  intro r M' ho H locs ls hP hS hl
  exact lv_iload h.1 h.2.1 hd (lv_at hl j hj) (kk r M' ho H locs ls hP hS hl)
theorem G_istore_n {x : Cx} {y : Cy} {cc : ByteArray} {own : String} (h : Ok x y cc own) {pc : Nat} {lv : List (Nat × Value)} {st : List Value} {M : Mem} {o : Ans} {k : Fin 4} {i nL : Nat} {v : Int32} (hL : x.2.2.2.2.1 = nL) (lv' : List (Nat × Value)) (hd : decode cc pc = .ok (.istore_n k, 1)) (hi : (k : Nat) = i) (hn : i < nL) (hlv : (i, Value.int v) :: lv.filter (fun q => !(q.1 == i) && !(q.1 + 1 == i && q.2.category == 2)) = lv') (kk : G x y (pc + 1) lv' st M o) : G x y pc lv (.int v :: st) M o := by
  intro r M' ho H locs ls hP hS hl
  exact lv_istore_n h.1 h.2.1 hd hi hl (by rw [hL]; exact hn) hlv (fun ls' hl' => kk r M' ho H locs ls' hP hS hl')
theorem G_istore {x : Cx} {y : Cy} {cc : ByteArray} {own : String} (h : Ok x y cc own) {pc : Nat} {lv : List (Nat × Value)} {st : List Value} {M : Mem} {o : Ans} {i nL : Nat} {v : Int32} (hL : x.2.2.2.2.1 = nL) (lv' : List (Nat × Value)) (hd : decode cc pc = .ok (.istore i, 2)) (hn : i < nL) (hlv : (i, Value.int v) :: lv.filter (fun q => !(q.1 == i) && !(q.1 + 1 == i && q.2.category == 2)) = lv') (kk : G x y (pc + 2) lv' st M o) : G x y pc lv (.int v :: st) M o := by
  intro r M' ho H locs ls hP hS hl
  exact lv_istore h.1 h.2.1 hd hl (by rw [hL]; exact hn) hlv (fun ls' hl' => kk r M' ho H locs ls' hP hS hl')
theorem G_aload_n {x : Cx} {y : Cy} {cc : ByteArray} {own : String} (h : Ok x y cc own) {pc : Nat} {lv : List (Nat × Value)} {st : List Value} {M : Mem} {o : Ans} {k : Fin 4} {i : Nat} {v : Nat} (hd : decode cc pc = .ok (.aload_n k, 1)) (hi : (k : Nat) = i) (j : Nat) (hj : lv[j]? = some (i, .ref v)) (kk : G x y (pc + 1) lv (.ref v :: st) M o) : G x y pc lv st M o := by
  intro r M' ho H locs ls hP hS hl
  exact lv_aload_n h.1 h.2.1 hd hi (lv_at hl j hj) (kk r M' ho H locs ls hP hS hl)
theorem G_aload {x : Cx} {y : Cy} {cc : ByteArray} {own : String} (h : Ok x y cc own) {pc : Nat} {lv : List (Nat × Value)} {st : List Value} {M : Mem} {o : Ans} {i : Nat} {v : Nat} (hd : decode cc pc = .ok (.aload i, 2)) (j : Nat) (hj : lv[j]? = some (i, .ref v)) (kk : G x y (pc + 2) lv (.ref v :: st) M o) : G x y pc lv st M o := by
  intro r M' ho H locs ls hP hS hl
  exact lv_aload h.1 h.2.1 hd (lv_at hl j hj) (kk r M' ho H locs ls hP hS hl)
theorem G_astore_n {x : Cx} {y : Cy} {cc : ByteArray} {own : String} (h : Ok x y cc own) {pc : Nat} {lv : List (Nat × Value)} {st : List Value} {M : Mem} {o : Ans} {k : Fin 4} {i nL : Nat} {v : Nat} (hL : x.2.2.2.2.1 = nL) (lv' : List (Nat × Value)) (hd : decode cc pc = .ok (.astore_n k, 1)) (hi : (k : Nat) = i) (hn : i < nL) (hlv : (i, Value.ref v) :: lv.filter (fun q => !(q.1 == i) && !(q.1 + 1 == i && q.2.category == 2)) = lv') (kk : G x y (pc + 1) lv' st M o) : G x y pc lv (.ref v :: st) M o := by
  intro r M' ho H locs ls hP hS hl
  exact lv_astore_n h.1 h.2.1 hd hi hl (by rw [hL]; exact hn) hlv (fun ls' hl' => kk r M' ho H locs ls' hP hS hl')
theorem G_astore {x : Cx} {y : Cy} {cc : ByteArray} {own : String} (h : Ok x y cc own) {pc : Nat} {lv : List (Nat × Value)} {st : List Value} {M : Mem} {o : Ans} {i nL : Nat} {v : Nat} (hL : x.2.2.2.2.1 = nL) (lv' : List (Nat × Value)) (hd : decode cc pc = .ok (.astore i, 2)) (hn : i < nL) (hlv : (i, Value.ref v) :: lv.filter (fun q => !(q.1 == i) && !(q.1 + 1 == i && q.2.category == 2)) = lv') (kk : G x y (pc + 2) lv' st M o) : G x y pc lv (.ref v :: st) M o := by
  intro r M' ho H locs ls hP hS hl
  exact lv_astore h.1 h.2.1 hd hl (by rw [hL]; exact hn) hlv (fun ls' hl' => kk r M' ho H locs ls' hP hS hl')
theorem G_iinc {x : Cx} {y : Cy} {cc : ByteArray} {own : String} (h : Ok x y cc own) {pc : Nat} {lv : List (Nat × Value)} {st : List Value} {M : Mem}  {i nL : Nat} {n : Int} {a v : Int32} {k : Int32 → Ans} (hL : x.2.2.2.2.1 = nL) (lv' : Int32 → List (Nat × Value)) (hd : decode cc pc = .ok (.iinc i n, 3)) (hn : i < nL) (j : Nat) (hj : lv[j]? = some (i, .int a)) (hv : a + Int32.ofInt n = v) (hlv : ∀ w, (i, Value.int w) :: lv.filter (fun q => !(q.1 == i) && !(q.1 + 1 == i && q.2.category == 2)) = lv' w) (kk : ∀ w, G x y (pc + 3) (lv' w) st M (k w)) : G x y pc lv st M (bnd v k) := by
  intro r M' ho H locs ls hP hS hl
  exact lv_iinc h.1 h.2.1 hd hl hj hv (by rw [hL]; exact hn) (hlv v) (fun ls' hl' => kk v r M' ho H locs ls' hP hS hl')
theorem G_icmp_eq {x : Cx} {y : Cy} {cc : ByteArray} {own : String} (h : Ok x y cc own) {pc : Nat} {lv : List (Nat × Value)} {st : List Value} {M : Mem} {ot of : Ans} {a b : Int32} {off : Int} {tgt : Nat} (hd : decode cc pc = .ok (.if_icmp .eq off, 3)) (ht : (pc : Int) + off = (tgt : Int)) (kt : G x y tgt lv st M ot) (kf : G x y (pc + 3) lv st M of) : G x y pc lv (.int b :: .int a :: st) M (if a = b then ot else of) := by
  intro r M' ho H locs ls hP hS hl
  exact lv_icmp_eq h.1 h.2.1 hd ht (fun c => kt r M' (by rw [if_pos c] at ho; exact ho) H locs ls hP hS hl) (fun c => kf r M' (by rw [if_neg c] at ho; exact ho) H locs ls hP hS hl)
theorem G_if_eq {x : Cx} {y : Cy} {cc : ByteArray} {own : String} (h : Ok x y cc own) {pc : Nat} {lv : List (Nat × Value)} {st : List Value} {M : Mem} {ot of : Ans} {a : Int32} {off : Int} {tgt : Nat} (hd : decode cc pc = .ok (.ifCond .eq off, 3)) (ht : (pc : Int) + off = (tgt : Int)) (kt : G x y tgt lv st M ot) (kf : G x y (pc + 3) lv st M of) : G x y pc lv (.int a :: st) M (if a = 0 then ot else of) := by
  intro r M' ho H locs ls hP hS hl
  exact lv_if_eq h.1 h.2.1 hd ht (fun c => kt r M' (by rw [if_pos c] at ho; exact ho) H locs ls hP hS hl) (fun c => kf r M' (by rw [if_neg c] at ho; exact ho) H locs ls hP hS hl)
theorem G_icmp_ne {x : Cx} {y : Cy} {cc : ByteArray} {own : String} (h : Ok x y cc own) {pc : Nat} {lv : List (Nat × Value)} {st : List Value} {M : Mem} {ot of : Ans} {a b : Int32} {off : Int} {tgt : Nat} (hd : decode cc pc = .ok (.if_icmp .ne off, 3)) (ht : (pc : Int) + off = (tgt : Int)) (kt : G x y tgt lv st M ot) (kf : G x y (pc + 3) lv st M of) : G x y pc lv (.int b :: .int a :: st) M (if a = b then of else ot) := by
  intro r M' ho H locs ls hP hS hl
  exact lv_icmp_ne h.1 h.2.1 hd ht (fun c => kt r M' (by rw [if_neg c] at ho; exact ho) H locs ls hP hS hl) (fun c => kf r M' (by rw [if_pos c] at ho; exact ho) H locs ls hP hS hl)
theorem G_if_ne {x : Cx} {y : Cy} {cc : ByteArray} {own : String} (h : Ok x y cc own) {pc : Nat} {lv : List (Nat × Value)} {st : List Value} {M : Mem} {ot of : Ans} {a : Int32} {off : Int} {tgt : Nat} (hd : decode cc pc = .ok (.ifCond .ne off, 3)) (ht : (pc : Int) + off = (tgt : Int)) (kt : G x y tgt lv st M ot) (kf : G x y (pc + 3) lv st M of) : G x y pc lv (.int a :: st) M (if a = 0 then of else ot) := by
  intro r M' ho H locs ls hP hS hl
  exact lv_if_ne h.1 h.2.1 hd ht (fun c => kt r M' (by rw [if_neg c] at ho; exact ho) H locs ls hP hS hl) (fun c => kf r M' (by rw [if_pos c] at ho; exact ho) H locs ls hP hS hl)
theorem G_icmp_lt {x : Cx} {y : Cy} {cc : ByteArray} {own : String} (h : Ok x y cc own) {pc : Nat} {lv : List (Nat × Value)} {st : List Value} {M : Mem} {ot of : Ans} {a b : Int32} {off : Int} {tgt : Nat} (hd : decode cc pc = .ok (.if_icmp .lt off, 3)) (ht : (pc : Int) + off = (tgt : Int)) (kt : G x y tgt lv st M ot) (kf : G x y (pc + 3) lv st M of) : G x y pc lv (.int b :: .int a :: st) M (if a < b then ot else of) := by
  intro r M' ho H locs ls hP hS hl
  exact lv_icmp_lt h.1 h.2.1 hd ht (fun c => kt r M' (by rw [if_pos c] at ho; exact ho) H locs ls hP hS hl) (fun c => kf r M' (by rw [if_neg c] at ho; exact ho) H locs ls hP hS hl)
theorem G_if_lt {x : Cx} {y : Cy} {cc : ByteArray} {own : String} (h : Ok x y cc own) {pc : Nat} {lv : List (Nat × Value)} {st : List Value} {M : Mem} {ot of : Ans} {a : Int32} {off : Int} {tgt : Nat} (hd : decode cc pc = .ok (.ifCond .lt off, 3)) (ht : (pc : Int) + off = (tgt : Int)) (kt : G x y tgt lv st M ot) (kf : G x y (pc + 3) lv st M of) : G x y pc lv (.int a :: st) M (if a < 0 then ot else of) := by
  intro r M' ho H locs ls hP hS hl
  exact lv_if_lt h.1 h.2.1 hd ht (fun c => kt r M' (by rw [if_pos c] at ho; exact ho) H locs ls hP hS hl) (fun c => kf r M' (by rw [if_neg c] at ho; exact ho) H locs ls hP hS hl)
theorem G_icmp_ge {x : Cx} {y : Cy} {cc : ByteArray} {own : String} (h : Ok x y cc own) {pc : Nat} {lv : List (Nat × Value)} {st : List Value} {M : Mem} {ot of : Ans} {a b : Int32} {off : Int} {tgt : Nat} (hd : decode cc pc = .ok (.if_icmp .ge off, 3)) (ht : (pc : Int) + off = (tgt : Int)) (kt : G x y tgt lv st M ot) (kf : G x y (pc + 3) lv st M of) : G x y pc lv (.int b :: .int a :: st) M (if b ≤ a then ot else of) := by
  intro r M' ho H locs ls hP hS hl
  exact lv_icmp_ge h.1 h.2.1 hd ht (fun c => kt r M' (by rw [if_pos c] at ho; exact ho) H locs ls hP hS hl) (fun c => kf r M' (by rw [if_neg c] at ho; exact ho) H locs ls hP hS hl)
theorem G_if_ge {x : Cx} {y : Cy} {cc : ByteArray} {own : String} (h : Ok x y cc own) {pc : Nat} {lv : List (Nat × Value)} {st : List Value} {M : Mem} {ot of : Ans} {a : Int32} {off : Int} {tgt : Nat} (hd : decode cc pc = .ok (.ifCond .ge off, 3)) (ht : (pc : Int) + off = (tgt : Int)) (kt : G x y tgt lv st M ot) (kf : G x y (pc + 3) lv st M of) : G x y pc lv (.int a :: st) M (if 0 ≤ a then ot else of) := by
  intro r M' ho H locs ls hP hS hl
  exact lv_if_ge h.1 h.2.1 hd ht (fun c => kt r M' (by rw [if_pos c] at ho; exact ho) H locs ls hP hS hl) (fun c => kf r M' (by rw [if_neg c] at ho; exact ho) H locs ls hP hS hl)
theorem G_icmp_gt {x : Cx} {y : Cy} {cc : ByteArray} {own : String} (h : Ok x y cc own) {pc : Nat} {lv : List (Nat × Value)} {st : List Value} {M : Mem} {ot of : Ans} {a b : Int32} {off : Int} {tgt : Nat} (hd : decode cc pc = .ok (.if_icmp .gt off, 3)) (ht : (pc : Int) + off = (tgt : Int)) (kt : G x y tgt lv st M ot) (kf : G x y (pc + 3) lv st M of) : G x y pc lv (.int b :: .int a :: st) M (if b < a then ot else of) := by
  intro r M' ho H locs ls hP hS hl
  exact lv_icmp_gt h.1 h.2.1 hd ht (fun c => kt r M' (by rw [if_pos c] at ho; exact ho) H locs ls hP hS hl) (fun c => kf r M' (by rw [if_neg c] at ho; exact ho) H locs ls hP hS hl)
theorem G_if_gt {x : Cx} {y : Cy} {cc : ByteArray} {own : String} (h : Ok x y cc own) {pc : Nat} {lv : List (Nat × Value)} {st : List Value} {M : Mem} {ot of : Ans} {a : Int32} {off : Int} {tgt : Nat} (hd : decode cc pc = .ok (.ifCond .gt off, 3)) (ht : (pc : Int) + off = (tgt : Int)) (kt : G x y tgt lv st M ot) (kf : G x y (pc + 3) lv st M of) : G x y pc lv (.int a :: st) M (if 0 < a then ot else of) := by
  intro r M' ho H locs ls hP hS hl
  exact lv_if_gt h.1 h.2.1 hd ht (fun c => kt r M' (by rw [if_pos c] at ho; exact ho) H locs ls hP hS hl) (fun c => kf r M' (by rw [if_neg c] at ho; exact ho) H locs ls hP hS hl)
theorem G_icmp_le {x : Cx} {y : Cy} {cc : ByteArray} {own : String} (h : Ok x y cc own) {pc : Nat} {lv : List (Nat × Value)} {st : List Value} {M : Mem} {ot of : Ans} {a b : Int32} {off : Int} {tgt : Nat} (hd : decode cc pc = .ok (.if_icmp .le off, 3)) (ht : (pc : Int) + off = (tgt : Int)) (kt : G x y tgt lv st M ot) (kf : G x y (pc + 3) lv st M of) : G x y pc lv (.int b :: .int a :: st) M (if a ≤ b then ot else of) := by
  intro r M' ho H locs ls hP hS hl
  exact lv_icmp_le h.1 h.2.1 hd ht (fun c => kt r M' (by rw [if_pos c] at ho; exact ho) H locs ls hP hS hl) (fun c => kf r M' (by rw [if_neg c] at ho; exact ho) H locs ls hP hS hl)
theorem G_if_le {x : Cx} {y : Cy} {cc : ByteArray} {own : String} (h : Ok x y cc own) {pc : Nat} {lv : List (Nat × Value)} {st : List Value} {M : Mem} {ot of : Ans} {a : Int32} {off : Int} {tgt : Nat} (hd : decode cc pc = .ok (.ifCond .le off, 3)) (ht : (pc : Int) + off = (tgt : Int)) (kt : G x y tgt lv st M ot) (kf : G x y (pc + 3) lv st M of) : G x y pc lv (.int a :: st) M (if a ≤ 0 then ot else of) := by
  intro r M' ho H locs ls hP hS hl
  exact lv_if_le h.1 h.2.1 hd ht (fun c => kt r M' (by rw [if_pos c] at ho; exact ho) H locs ls hP hS hl) (fun c => kf r M' (by rw [if_neg c] at ho; exact ho) H locs ls hP hS hl)
theorem G_top {x : Cx} {y : Cy} {pc : Nat} {lv : List (Nat × Value)} {st : List Value} {M : Mem} {a : Int32} {k : Int32 → Ans} (kk : ∀ v, G x y pc lv (.int v :: st) M (k v)) : G x y pc lv (.int a :: st) M (bnd a k) := kk a
theorem G_sub {x : Cx} {y : Cy} {pc : Nat} {lv lv' : List (Nat × Value)} {st : List Value} {M : Mem} {o : Ans} (ks : List Nat) (hk : lv_pick lv ks = lv') (kk : G x y pc lv' st M o) : G x y pc lv st M o := fun r M' ho H locs ls hP hS hl => kk r M' ho H locs ls hP hS (lv_sub hl ks hk)
/-- a field of a class, as a method of the class 'own' links it -/
def FL (own : String) (idx ci k : Nat) : Prop := ∃ (C : String) (T : u_T) (N : Nat), CL[ci]? = some (C, T, N) ∧ k < N ∧ (∀ w ∈ u_ws C T N, w ∈ TT) ∧ (T k).1 = C ∧ Cond.fieldLink own idx C (T k).2.1 (T k).2.2.1 ∈ TT
def FP (own : String) (idx ci k : Nat) (ty : FieldType) : Prop := ∃ (C : String) (T : u_T) (N : Nat) (t0 : Nat → FieldType), CL[ci]? = some (C, T, N) ∧ k < N ∧ (∀ w ∈ u_ws C T N, w ∈ TT) ∧ (T k).1 = C ∧ Cond.fieldLink own idx C (T k).2.1 (T k).2.2.1 ∈ TT ∧ (∀ k, k < N → parseFieldDescriptor (T k).2.2.1 = some (t0 k)) ∧ (∀ a, a < N → ∀ b, b < N → a ≠ b → (T a).2.1 ≠ (T b).2.1) ∧ (T k).2.2.2 = false ∧ parseFieldDescriptor (T k).2.2.1 = some ty
theorem G_get {x : Cx} {y : Cy} {cc : ByteArray} {own : String} (h : Ok x y cc own) {pc : Nat} {lv : List (Nat × Value)} {st : List Value} {M : Mem} {o : Ans} {i idx ci k : Nat} {fs : List Value} {v : Value} (hf : FL own idx ci k) (hi : i < NWc) (he : ent y i (M i) = .inr (ci, fs)) (hv : fs[k]? = some v) (hd : decode cc pc = .ok (.getfield idx, 3)) (kk : G x y (pc + 3) lv (v :: st) M o) : G x y pc lv (.ref (y.2.1 i) :: st) M o := by
  intro r M' ho H locs ls hP hS hl
  obtain ⟨C, T, N, hc, hk, hin, hC, hlink⟩ := hf
  obtain ⟨hx, hb, hml, hown, hts, hK, hy, hA, -⟩ := h
  exact va_get (D := y.1) (C := C) (T := T) (N := N) (ref := C) hx hb hts hin hown hK hP i (by rw [wl_get hi, he]) hc k hk (hts _ hlink) (fun z hz => by rw [hC] at hz; exact hz) hv hd (kk r M' ho H locs ls hP hS hl)
theorem G_put {x : Cx} {y : Cy} {cc : ByteArray} {own : String} (h : Ok x y cc own) {pc : Nat} {lv : List (Nat × Value)} {st : List Value} {M : Mem}  {i idx ci j : Nat} {ty : FieldType} {F : (Nat → Int32) → List Value} {v : Int32} {k : Mem → Ans} (hf : FP own idx ci j ty) (hi : i < NWc) (he : ∀ m, ent y i m = .inr (ci, F m)) (hF : ∀ m, F (upd m j v) = (F m).set j (.int v)) (hl0 : ∀ m, j < (F m).length) (hn : narrow ty (.int v) = .int v) (hfit : fits ty (.int v) = true) (hd : decode cc pc = .ok (.putfield idx, 3)) (kk : ∀ M1, G x y (pc + 3) lv st M1 (k M1)) : G x y pc lv (.int v :: .ref (y.2.1 i) :: st) M (bnd (mup M i j v) k) := by
  intro r M' ho H locs ls hP hS hl
  obtain ⟨C, T, N, t0, hc, hk, hin, hC, hlink, hty, hnm, hfin, hpd⟩ := hf
  obtain ⟨hx, hb, hml, hown, hts, hK, hy, hA, -⟩ := h
  refine va_put (D := y.1) (C := C) (T := T) (N := N) (ref := C) hx hb hts hin t0 hty hnm hown hK hP (wl_D hy hA M) hS i (by rw [wl_get hi, he]) hc j hk (hts _ hlink) (fun z hz => by rw [hC] at hz; exact hz) hfin hpd hn hfit (hl0 _) hd (fun H1 locs1 hP1 hD1 hS1 => ?_)
  rw [← hF (M i), ← he, wl_set hi] at hP1
  exact kk _ r M' ho H1 locs1 ls hP1 hS1 hl
theorem G_iald {x : Cx} {y : Cy} {cc : ByteArray} {own : String} (h : Ok x y cc own) {pc : Nat} {lv : List (Nat × Value)} {st : List Value} {M : Mem} {o : Ans} {i n : Nat} {ix : Int32} (hi : i < NWc) (he : ent y i (M i) = .inl (y.2.2 0, (n, .inl (M i)))) (hd : decode cc pc = .ok (.iaload, 1)) (kk : G x y (pc + 1) lv (.int (M i ix.toNatClampNeg) :: st) M o) : G x y pc lv (.int ix :: .ref (y.2.1 i) :: st) M (chk ix n o) := by
  intro r M' ho H locs ls hP hS hl
  obtain ⟨hx, hb, hml, hown, hts, hK, hy, hA, -⟩ := h
  by_cases hc : ix < 0 ∨ n ≤ ix.toNatClampNeg
  · unfold chk at ho
    rw [if_pos hc] at ho
    cases ho
  · unfold chk at ho
    rw [if_neg hc] at ho
    exact va_iald hx hb hK hP i 0 (by rw [wl_get hi, he]) rfl hc hd (kk r M' ho H locs ls hP hS hl)
theorem G_zald {x : Cx} {y : Cy} {cc : ByteArray} {own : String} (h : Ok x y cc own) {pc : Nat} {lv : List (Nat × Value)} {st : List Value} {M : Mem} {o : Ans} {i n : Nat} {ix : Int32} (hi : i < NWc) (he : ent y i (M i) = .inl (y.2.2 1, (n, .inl (M i)))) (hd : decode cc pc = .ok (.baload, 1)) (kk : G x y (pc + 1) lv (.int (M i ix.toNatClampNeg) :: st) M o) : G x y pc lv (.int ix :: .ref (y.2.1 i) :: st) M (chk ix n o) := by
  intro r M' ho H locs ls hP hS hl
  obtain ⟨hx, hb, hml, hown, hts, hK, hy, hA, -⟩ := h
  by_cases hc : ix < 0 ∨ n ≤ ix.toNatClampNeg
  · unfold chk at ho
    rw [if_pos hc] at ho
    cases ho
  · unfold chk at ho
    rw [if_neg hc] at ho
    exact va_zald hx hb hK hP i 1 (by rw [wl_get hi, he]) rfl hc hd (kk r M' ho H locs ls hP hS hl)
theorem G_cald {x : Cx} {y : Cy} {cc : ByteArray} {own : String} (h : Ok x y cc own) {pc : Nat} {lv : List (Nat × Value)} {st : List Value} {M : Mem} {o : Ans} {i n : Nat} {ix : Int32} (hi : i < NWc) (he : ent y i (M i) = .inl (y.2.2 2, (n, .inl (M i)))) (hd : decode cc pc = .ok (.caload, 1)) (kk : G x y (pc + 1) lv (.int (M i ix.toNatClampNeg) :: st) M o) : G x y pc lv (.int ix :: .ref (y.2.1 i) :: st) M (chk ix n o) := by
  intro r M' ho H locs ls hP hS hl
  obtain ⟨hx, hb, hml, hown, hts, hK, hy, hA, -⟩ := h
  by_cases hc : ix < 0 ∨ n ≤ ix.toNatClampNeg
  · unfold chk at ho
    rw [if_pos hc] at ho
    cases ho
  · unfold chk at ho
    rw [if_neg hc] at ho
    exact va_cald hx hb hK hP i 2 (by rw [wl_get hi, he]) rfl hc hd (kk r M' ho H locs ls hP hS hl)
theorem G_iast {x : Cx} {y : Cy} {cc : ByteArray} {own : String} (h : Ok x y cc own) {pc : Nat} {lv : List (Nat × Value)} {st : List Value} {M : Mem}  {i n : Nat} {ix v : Int32} {k : Mem → Ans} (hi : i < NWc) (he : ∀ m, ent y i m = .inl (y.2.2 0, (n, .inl m))) (hd : decode cc pc = .ok (.iastore, 1)) (kk : ∀ M1, G x y (pc + 1) lv st M1 (k M1)) : G x y pc lv (.int v :: .int ix :: .ref (y.2.1 i) :: st) M (chk ix n (bnd (mup M i ix.toNatClampNeg v) k)) := by
  intro r M' ho H locs ls hP hS hl
  obtain ⟨hx, hb, hml, hown, hts, hK, hy, hA, -⟩ := h
  by_cases hc : ix < 0 ∨ n ≤ ix.toNatClampNeg
  · unfold chk at ho
    rw [if_pos hc] at ho
    cases ho
  · unfold chk at ho
    rw [if_neg hc] at ho
    refine va_iast hx hb hK hP (wl_D hy hA M) hS i 0 (by rw [wl_get hi, he]) rfl hc hd (fun H1 locs1 hP1 hD1 hS1 => ?_)
    rw [← he, wl_set hi] at hP1
    exact kk _ r M' ho H1 locs1 ls hP1 hS1 hl
theorem G_zast {x : Cx} {y : Cy} {cc : ByteArray} {own : String} (h : Ok x y cc own) {pc : Nat} {lv : List (Nat × Value)} {st : List Value} {M : Mem}  {i n : Nat} {ix v : Int32} {k : Mem → Ans} (hi : i < NWc) (he : ∀ m, ent y i m = .inl (y.2.2 1, (n, .inl m))) (hd : decode cc pc = .ok (.bastore, 1)) (kk : ∀ M1, G x y (pc + 1) lv st M1 (k M1)) : G x y pc lv (.int v :: .int ix :: .ref (y.2.1 i) :: st) M (chk ix n (bnd (mup M i ix.toNatClampNeg (vp_nar .boolean v)) k)) := by
  intro r M' ho H locs ls hP hS hl
  obtain ⟨hx, hb, hml, hown, hts, hK, hy, hA, -⟩ := h
  by_cases hc : ix < 0 ∨ n ≤ ix.toNatClampNeg
  · unfold chk at ho
    rw [if_pos hc] at ho
    cases ho
  · unfold chk at ho
    rw [if_neg hc] at ho
    refine va_zast hx hb hK hP (wl_D hy hA M) hS i 1 (by rw [wl_get hi, he]) rfl hc hd (fun H1 locs1 hP1 hD1 hS1 => ?_)
    rw [← he, wl_set hi] at hP1
    exact kk _ r M' ho H1 locs1 ls hP1 hS1 hl
theorem G_cast {x : Cx} {y : Cy} {cc : ByteArray} {own : String} (h : Ok x y cc own) {pc : Nat} {lv : List (Nat × Value)} {st : List Value} {M : Mem}  {i n : Nat} {ix v : Int32} {k : Mem → Ans} (hi : i < NWc) (he : ∀ m, ent y i m = .inl (y.2.2 2, (n, .inl m))) (hd : decode cc pc = .ok (.castore, 1)) (kk : ∀ M1, G x y (pc + 1) lv st M1 (k M1)) : G x y pc lv (.int v :: .int ix :: .ref (y.2.1 i) :: st) M (chk ix n (bnd (mup M i ix.toNatClampNeg (vp_nar .char v)) k)) := by
  intro r M' ho H locs ls hP hS hl
  obtain ⟨hx, hb, hml, hown, hts, hK, hy, hA, -⟩ := h
  by_cases hc : ix < 0 ∨ n ≤ ix.toNatClampNeg
  · unfold chk at ho
    rw [if_pos hc] at ho
    cases ho
  · unfold chk at ho
    rw [if_neg hc] at ho
    refine va_cast hx hb hK hP (wl_D hy hA M) hS i 2 (by rw [wl_get hi, he]) rfl hc hd (fun H1 locs1 hP1 hD1 hS1 => ?_)
    rw [← he, wl_set hi] at hP1
    exact kk _ r M' ho H1 locs1 ls hP1 hS1 hl
theorem G_aald {x : Cx} {y : Cy} {cc : ByteArray} {own : String} (h : Ok x y cc own) {pc : Nat} {lv : List (Nat × Value)} {st : List Value} {M : Mem}  {ix : Int32} {k : Nat → Ans} (hd : decode cc pc = .ok (.aaload, 1)) (kk : ∀ q, q < 7 → G x y (pc + 1) lv (.ref (y.2.1 (sI q 0)) :: st) M (k q)) : G x y pc lv (.int ix :: .ref (y.2.1 135) :: st) M (chk ix 4 (stk (M 135 ix.toNatClampNeg) k)) := by
  intro r M' ho H locs ls hP hS hl
  obtain ⟨hx, hb, hml, hown, hts, hK, hy, hA, -⟩ := h
  have hi : 135 < NWc := by decide
  by_cases hc : ix < 0 ∨ 4 ≤ ix.toNatClampNeg
  · unfold chk at ho
    rw [if_pos hc] at ho
    cases ho
  · unfold chk at ho
    rw [if_neg hc] at ho
    unfold stk at ho
    by_cases h7 : (M 135 ix.toNatClampNeg).toNatClampNeg < 7
    · rw [if_pos h7] at ho
      exact va_aldq hx hb hK hP 135 3 (f := fun j => some (y.2.1 (sI (M 135 j).toNatClampNeg 0))) (by rw [wl_get hi, ent_m (by decide)]; rfl) rfl hc hd (kk _ h7 r M' ho H locs ls hP hS hl)
    · rw [if_neg h7] at ho
      cases ho
theorem G_aast {x : Cx} {y : Cy} {cc : ByteArray} {own : String} (h : Ok x y cc own) {pc : Nat} {lv : List (Nat × Value)} {st : List Value} {M : Mem}  {ix : Int32} {q : Nat} (hq : q < 7) {k : Mem → Ans} (hd : decode cc pc = .ok (.aastore, 1)) (kk : ∀ M1, G x y (pc + 1) lv st M1 (k M1)) : G x y pc lv (.ref (y.2.1 (sI q 0)) :: .int ix :: .ref (y.2.1 135) :: st) M (chk ix 4 (bnd (mup M 135 ix.toNatClampNeg (nI q)) k)) := by
  intro r M' ho H locs ls hP hS hl
  obtain ⟨hx, hb, hml, hown, hts, hK, hy, hA, -⟩ := h
  have hi : 135 < NWc := by decide
  by_cases hc : ix < 0 ∨ 4 ≤ ix.toNatClampNeg
  · unfold chk at ho
    rw [if_pos hc] at ho
    cases ho
  · unfold chk at ho
    rw [if_neg hc] at ho
    refine va_astq hx hb hK hP (wl_D hy hA M) hS 135 3 (sI q 0) 5 (r := (RX5, TX5, 10)) (f := fun j => some (y.2.1 (sI (M 135 j).toNatClampNeg 0))) (by rw [wl_get hi, ent_m (by decide)]; rfl) rfl (by rw [wl_get (ids_s hq 0 (by decide)), ent_s hq 0 (by decide)]; rfl) rfl hc hd (fun H1 locs1 hP1 hD1 hS1 => ?_)
    have e : (Sum.inl (y.2.2 3, (4, .inr (.inr (.inr (.inr (va_up (fun j => some (y.2.1 (sI (M 135 j).toNatClampNeg 0))) ix.toNatClampNeg (some (y.2.1 (sI q 0))))))))) : va_E) = ent y 135 (upd (M 135) ix.toNatClampNeg (nI q)) := by
      rw [ent_m (by decide)]
      show _ = (Sum.inl (y.2.2 3, (4, .inr (.inr (.inr (.inr (fun j => some (y.2.1 (sI (upd (M 135) ix.toNatClampNeg (nI q) j).toNatClampNeg 0)))))))) : va_E)
      congr 7
      funext j
      unfold va_up upd
      by_cases hj : j = ix.toNatClampNeg
      · rw [if_pos hj, if_pos hj, nI_clamp (by omega)]
      · rw [if_neg hj, if_neg hj]
    rw [e, wl_set hi] at hP1
    exact kk _ r M' ho H1 locs1 ls hP1 hS1 hl
def imin (a b : Int32) : Int32 := if b < a then b else a
def imax (a b : Int32) : Int32 := if a < b then b else a
def MMx (own : String) (idx : Nat) : Prop := Cond.methodLink own idx Lib.Math.max.name ∈ TT ∧ Cond.static Lib.Math.max.name ∈ TT ∧ Cond.initialized "java/lang/Math" ∈ TT ∧ Cond.code Lib.Math.max.name Lib.Math.max.code 2 (some .int) ∈ TT
def MMn (own : String) (idx : Nat) : Prop := Cond.methodLink own idx Lib.Math.min.name ∈ TT ∧ Cond.static Lib.Math.min.name ∈ TT ∧ Cond.initialized "java/lang/Math" ∈ TT ∧ Cond.code Lib.Math.min.name Lib.Math.min.code 2 (some .int) ∈ TT
def MCp (own : String) (idx : Nat) : Prop := Cond.methodLink own idx arraycopyName ∈ TT ∧ Cond.native arraycopyName ∈ TT ∧ Cond.static arraycopyName ∈ TT ∧ Cond.initialized "java/lang/System" ∈ TT
theorem G_mmax {x : Cx} {y : Cy} {cc : ByteArray} {own : String} (h : Ok x y cc own) {pc : Nat} {lv : List (Nat × Value)} {st : List Value} {M : Mem} {o : Ans} {idx : Nat} {a b : Int32} {rm : Room} (hR : x.1.2.2.2.1 = rm) (hm : MMx own idx) (hd : decode cc pc = .ok (.invokestatic idx, 3)) (h1 : 1 ≤ rm.frames) (h2 : (st.map fun v => v.category).sum + 13 ≤ rm.locals) (kk : G x y (pc + 3) lv (.int (imax a b) :: st) M o) : G x y pc lv (.int b :: .int a :: st) M o := by
  intro r M' ho H locs ls hP hS hl
  obtain ⟨hx, hb, hml, hown, hts, hK, hy, hA, hc, hs⟩ := h
  obtain ⟨m1, m2, m3, m4⟩ := hm
  exact va_mmax hx hb (hml.trans hl.1.symm) hown (hts _ m1) (hts _ m2) (hts _ m3) (hts _ m4) (by rw [hR]; exact h1) (by rw [hR]; exact h2) hc hs hd (kk r M' ho H locs ls hP hS hl)
theorem G_mmin {x : Cx} {y : Cy} {cc : ByteArray} {own : String} (h : Ok x y cc own) {pc : Nat} {lv : List (Nat × Value)} {st : List Value} {M : Mem} {o : Ans} {idx : Nat} {a b : Int32} {rm : Room} (hR : x.1.2.2.2.1 = rm) (hm : MMn own idx) (hd : decode cc pc = .ok (.invokestatic idx, 3)) (h1 : 1 ≤ rm.frames) (h2 : (st.map fun v => v.category).sum + 13 ≤ rm.locals) (kk : G x y (pc + 3) lv (.int (imin a b) :: st) M o) : G x y pc lv (.int b :: .int a :: st) M o := by
  intro r M' ho H locs ls hP hS hl
  obtain ⟨hx, hb, hml, hown, hts, hK, hy, hA, hc, hs⟩ := h
  obtain ⟨m1, m2, m3, m4⟩ := hm
  exact va_mmin hx hb (hml.trans hl.1.symm) hown (hts _ m1) (hts _ m2) (hts _ m3) (hts _ m4) (by rw [hR]; exact h1) (by rw [hR]; exact h2) hc hs hd (kk r M' ho H locs ls hP hS hl)
theorem G_copy {x : Cx} {y : Cy} {cc : ByteArray} {own : String} (h : Ok x y cc own) {pc : Nat} {lv : List (Nat × Value)} {st : List Value} {M : Mem}  {idx i0 i1 N : Nat} {n : Int32} {rm : Room} {k : Mem → Ans} (hR : x.1.2.2.2.1 = rm) (hm : MCp own idx) (h0 : i0 < NWc) (h1 : i1 < NWc) (e0 : ent y i0 (M i0) = .inl (y.2.2 0, (N, .inl (M i0)))) (e1 : ∀ m, ent y i1 m = .inl (y.2.2 0, (N, .inl m))) (hn0 : ¬ n < 0) (hn : n.toNatClampNeg = N) (hd : decode cc pc = .ok (.invokestatic idx, 3)) (hf : 1 ≤ rm.frames) (hlo : (st.map fun v => v.category).sum + (nativeFrameWords "java/lang/System" "arraycopy" 5 + 11) ≤ rm.locals) (kk : ∀ M1, G x y (pc + 3) lv st M1 (k M1)) : G x y pc lv (.int n :: .int 0 :: .ref (y.2.1 i1) :: .int 0 :: .ref (y.2.1 i0) :: st) M (bnd (mset M i1 (va_cpy (M i0) (M i1) 0 0 N)) k) := by
  intro r M' ho H locs ls hP hS hl
  obtain ⟨hx, hb, hml, hown, hts, hK, hy, hA, hc, hs⟩ := h
  obtain ⟨m1, m2, m3, m4⟩ := hm
  have z : (0 : Int32).toNatClampNeg = 0 := by decide
  refine va_copyi hx hb (hml.trans hl.1.symm) hown (hts _ m1) (hts _ m2) (hts _ m3) (hts _ m4) hK hP (wl_D hy hA M) hS i0 i1 0 0 (by rw [wl_get h0, e0]) (by rw [wl_get h1, e1]) rfl rfl rfl (by decide) (by decide) hn0 (by rw [z, hn]; omega) (by rw [z, hn]; omega) (fun _ _ => rfl) (by rw [hR]; exact hf) (by rw [hR]; exact hlo) hd (fun H1 locs1 hP1 hD1 hS1 => ?_)
  rw [← e1, wl_set h1, z, hn] at hP1
  exact kk _ r M' ho H1 locs1 ls hP1 hS1 hl
def Bw (y : Cy) (u : Mem) (t : State) : Prop := va_P y.1 CL (wl y u) t.heap
def Qp (y : Cy) (ret : Option FieldType) (r : Int32) (M' : Mem) : Array Value → State → Outcome → State → Prop := match ret with
  | none => va_Qv (fun u => u = M') (Bw y) (AA y)
  | some _ => va_Qi (fun r' u => r' = r ∧ u = M') (Bw y) (AA y)
def Pp (y : Cy) (args : List Value) (M : Mem) : Array Value → State → Prop := va_Pc args (fun U => va_P y.1 CL (wl y M) U.heap ∧ va_K y.1 CL (tyl y) U)
def CT (l : Launch) (y : Cy) (nm : MethodName) (cc : ByteArray) (maxL : Nat) (ret : Option FieldType) (rm : Room) (args : List Value) (M : Mem) (o : Ans) : Prop :=
  ∀ r M', o = some (r, M') → Met l nm (.code nm cc maxL ret :: TT) rm (Pp y args M) (Qp y ret r M') 0 0 (AA y)
def LkV (own : String) (idx : Nat) (nm : MethodName) (cc : ByteArray) (maxL : Nat) (ret : Option FieldType) (n : Nat) : Prop :=
  Cond.methodLink own idx nm ∈ TT ∧ Cond.instanceMethod nm ∈ TT ∧ Cond.selects nm.cls nm nm ∈ TT ∧ Cond.initialized nm.cls ∈ TT ∧ Cond.code nm cc maxL ret ∈ TT ∧ (nm.cls ≠ "java/lang/invoke/MethodHandle" ∧ nm.cls ≠ "java/lang/invoke/VarHandle" ∧ (parseMethodDescriptor nm.desc).map (fun d => d.parameters.length) = some n)
def LkS (own : String) (idx : Nat) (nm : MethodName) (cc : ByteArray) (maxL : Nat) (ret : Option FieldType) (n : Nat) : Prop :=
  Cond.methodLink own idx nm ∈ TT ∧ Cond.static nm ∈ TT ∧ nm.cls = own ∧ Cond.initialized own ∈ TT ∧ Cond.code nm cc maxL ret ∈ TT ∧ (nm.cls ≠ "java/lang/invoke/MethodHandle" ∧ nm.cls ≠ "java/lang/invoke/VarHandle" ∧ (parseMethodDescriptor nm.desc).map (fun d => d.parameters.length) = some n)
theorem LkV_good {own : String} {idx : Nat} {nm : MethodName} {cc : ByteArray} {maxL : Nat} {ret : Option FieldType} {n : Nat} (h : LkV own idx nm cc maxL ret n) : GoodIn TT (wsV own idx nm.cls nm (.code nm cc maxL ret :: TT)) := by
  obtain ⟨h1, h2, h3, h4, h5, -⟩ := h
  intro w hw
  refine TT_good w ?_
  simp only [wsV, List.cons_append, List.nil_append, List.mem_cons] at hw
  rcases hw with rfl | rfl | rfl | rfl | rfl | hw
  · exact h1
  · exact h2
  · exact h3
  · exact h4
  · exact h5
  · exact hw
theorem LkS_good {own : String} {idx : Nat} {nm : MethodName} {cc : ByteArray} {maxL : Nat} {ret : Option FieldType} {n : Nat} (h : LkS own idx nm cc maxL ret n) : GoodIn TT (wsS own idx nm (.code nm cc maxL ret :: TT)) := by
  obtain ⟨h1, h2, h3, h4, h5, -⟩ := h
  intro w hw
  refine TT_good w ?_
  simp only [wsS, List.cons_append, List.nil_append, List.mem_cons] at hw
  rcases hw with rfl | rfl | rfl | rfl | hw
  · exact h1
  · exact h2
  · exact h4
  · exact h5
  · exact hw
theorem Pp_blind {y : Cy} {args : List Value} {M : Mem} : FrameBlind (Pp y args M) := fun a U g mk q => ⟨q.1, q.2.1, va_K.moved (u := U) (U := U.calling g mk a) (Vm.Alike.refl U.vm) q.2.2⟩
theorem G_callV {x : Cx} {y : Cy} {cc : ByteArray} {own : String} (h : Ok x y cc own) {pc : Nat} {lv : List (Nat × Value)} {st : List Value} {M : Mem} {idx n maxL : Nat} {nm : MethodName} {bytes : ByteArray} {rm rm' : Room} {As rest : List Value} {o1 : Ans} (hR : x.1.2.2.2.1 = rm) {rt : FieldType} {i ci : Nat} {fs : List Value} {q : vw_C} {k : Int32 → Mem → Ans} (lk : LkV own idx nm bytes maxL (some rt) n) (hi : i < NWc) (he : ent y i (M i) = .inr (ci, fs)) (hq : CL[ci]? = some q) (hqn : q.1 = nm.cls) (hc : CT x.1.2.1 y nm bytes maxL (some rt) rm' (.ref (y.2.1 i) :: As) M o1) (hst : st = As.reverse ++ .ref (y.2.1 i) :: rest) (hn : As.length = n) (hw8 : (rest.map fun v => v.category).sum ≤ 8) (hr : rm'.cells = 0 ∧ rm'.slots = 0 ∧ rm'.frames + 1 ≤ rm.frames ∧ 8 + (maxL + 11) + rm'.locals ≤ rm.locals) (hd : decode cc pc = .ok (.invokevirtual idx, 3)) (kk : ∀ r1 M1, G x y (pc + 3) lv (.int r1 :: rest) M1 (k r1 M1)) : G x y pc lv st M (bd o1 k) := by
  intro r M' ho H locs ls hP hS hl
  obtain ⟨hx, hb, hml, hown, hts, hK, hy, hA, hcl, hsl⟩ := h
  cases ho1 : o1 with
  | none => rw [ho1] at ho; cases ho
  | some q2 =>
  rw [ho1] at ho
  have hM := hc q2.1 q2.2 ho1
  subst hst
  refine va_calli (va_runV (As := As) (rest := rest) ⟨hx, hb, hml, hown, hts⟩ hM (cwV n hts (LkV_good lk) rfl hr.1 hr.2.1 ⟨rfl, lk.2.2.2.2.2⟩ ⟨by rw [hR]; exact hr.2.2.1, by rw [hR]; exact hr.2.2.2⟩) ⟨Pp_blind, by have e := va_recv hK hP hq (show (wl y M)[i]? = some (y.2.1 i, .inr (ci, fs)) by rw [wl_get hi, he]); rw [hqn] at e; exact e, fun U hU hW => ⟨rfl, by rw [hU]; exact hP, va_K.moved hW.alike hK⟩⟩ rfl hn hl.1 rfl (lv_room hw8) hd ⟨hcl, hsl⟩) hS (fun q _ h => hA q h) hA (fun r2 u t H1 locs1 ht hvm hw hB hz hk hS1 => ?_)
  obtain ⟨rfl, rfl⟩ := hw
  exact kk q2.1 q2.2 r M' ho H1 locs1 ls (by rw [← ht]; exact hB) hS1 hl
theorem G_callVv {x : Cx} {y : Cy} {cc : ByteArray} {own : String} (h : Ok x y cc own) {pc : Nat} {lv : List (Nat × Value)} {st : List Value} {M : Mem} {idx n maxL : Nat} {nm : MethodName} {bytes : ByteArray} {rm rm' : Room} {As rest : List Value} {o1 : Ans} (hR : x.1.2.2.2.1 = rm) {i ci : Nat} {fs : List Value} {q : vw_C} {k : Int32 → Mem → Ans} (lk : LkV own idx nm bytes maxL none n) (hi : i < NWc) (he : ent y i (M i) = .inr (ci, fs)) (hq : CL[ci]? = some q) (hqn : q.1 = nm.cls) (hc : CT x.1.2.1 y nm bytes maxL none rm' (.ref (y.2.1 i) :: As) M o1) (hst : st = As.reverse ++ .ref (y.2.1 i) :: rest) (hn : As.length = n) (hw8 : (rest.map fun v => v.category).sum ≤ 8) (hr : rm'.cells = 0 ∧ rm'.slots = 0 ∧ rm'.frames + 1 ≤ rm.frames ∧ 8 + (maxL + 11) + rm'.locals ≤ rm.locals) (hd : decode cc pc = .ok (.invokevirtual idx, 3)) (kk : ∀ r1 M1, G x y (pc + 3) lv rest M1 (k r1 M1)) : G x y pc lv st M (bd o1 k) := by
  intro r M' ho H locs ls hP hS hl
  obtain ⟨hx, hb, hml, hown, hts, hK, hy, hA, hcl, hsl⟩ := h
  cases ho1 : o1 with
  | none => rw [ho1] at ho; cases ho
  | some q2 =>
  rw [ho1] at ho
  have hM := hc q2.1 q2.2 ho1
  subst hst
  refine va_callv (va_runV (As := As) (rest := rest) ⟨hx, hb, hml, hown, hts⟩ hM (cwV n hts (LkV_good lk) rfl hr.1 hr.2.1 ⟨rfl, lk.2.2.2.2.2⟩ ⟨by rw [hR]; exact hr.2.2.1, by rw [hR]; exact hr.2.2.2⟩) ⟨Pp_blind, by have e := va_recv hK hP hq (show (wl y M)[i]? = some (y.2.1 i, .inr (ci, fs)) by rw [wl_get hi, he]); rw [hqn] at e; exact e, fun U hU hW => ⟨rfl, by rw [hU]; exact hP, va_K.moved hW.alike hK⟩⟩ rfl hn hl.1 rfl (lv_room hw8) hd ⟨hcl, hsl⟩) hS (fun q _ h => hA q h) hA (fun u t H1 locs1 ht hvm hw hB hz hk hS1 => ?_)
  obtain rfl := hw
  exact kk q2.1 q2.2 r M' ho H1 locs1 ls (by rw [← ht]; exact hB) hS1 hl
theorem G_callS {x : Cx} {y : Cy} {cc : ByteArray} {own : String} (h : Ok x y cc own) {pc : Nat} {lv : List (Nat × Value)} {st : List Value} {M : Mem} {idx n maxL : Nat} {nm : MethodName} {bytes : ByteArray} {rm rm' : Room} {As rest : List Value} {o1 : Ans} (hR : x.1.2.2.2.1 = rm) {rt : FieldType} {k : Int32 → Mem → Ans} (lk : LkS own idx nm bytes maxL (some rt) n) (hc : CT x.1.2.1 y nm bytes maxL (some rt) rm' As M o1) (hst : st = As.reverse ++ rest) (hn : As.length = n) (hw8 : (rest.map fun v => v.category).sum ≤ 8) (hr : rm'.cells = 0 ∧ rm'.slots = 0 ∧ rm'.frames + 1 ≤ rm.frames ∧ 8 + (maxL + 11) + rm'.locals ≤ rm.locals) (hd : decode cc pc = .ok (.invokestatic idx, 3)) (kk : ∀ r1 M1, G x y (pc + 3) lv (.int r1 :: rest) M1 (k r1 M1)) : G x y pc lv st M (bd o1 k) := by
  intro r M' ho H locs ls hP hS hl
  obtain ⟨hx, hb, hml, hown, hts, hK, hy, hA, hcl, hsl⟩ := h
  cases ho1 : o1 with
  | none => rw [ho1] at ho; cases ho
  | some q2 =>
  rw [ho1] at ho
  have hM := hc q2.1 q2.2 ho1
  subst hst
  refine va_calli (va_runS (As := As) (rest := rest) ⟨hx, hb, hml, hown, hts⟩ hM (cwS n hts (LkS_good lk) rfl hr.1 hr.2.1 ⟨lk.2.2.1, lk.2.2.2.2.2⟩ ⟨by rw [hR]; exact hr.2.2.1, by rw [hR]; exact hr.2.2.2⟩) ⟨Pp_blind, fun U hU hW => ⟨rfl, by rw [hU]; exact hP, va_K.moved hW.alike hK⟩⟩ rfl hn hl.1 rfl (lv_room hw8) hd ⟨hcl, hsl⟩) hS (fun q _ h => hA q h) hA (fun r2 u t H1 locs1 ht hvm hw hB hz hk hS1 => ?_)
  obtain ⟨rfl, rfl⟩ := hw
  exact kk q2.1 q2.2 r M' ho H1 locs1 ls (by rw [← ht]; exact hB) hS1 hl
theorem G_callSv {x : Cx} {y : Cy} {cc : ByteArray} {own : String} (h : Ok x y cc own) {pc : Nat} {lv : List (Nat × Value)} {st : List Value} {M : Mem} {idx n maxL : Nat} {nm : MethodName} {bytes : ByteArray} {rm rm' : Room} {As rest : List Value} {o1 : Ans} (hR : x.1.2.2.2.1 = rm) {k : Int32 → Mem → Ans} (lk : LkS own idx nm bytes maxL none n) (hc : CT x.1.2.1 y nm bytes maxL none rm' As M o1) (hst : st = As.reverse ++ rest) (hn : As.length = n) (hw8 : (rest.map fun v => v.category).sum ≤ 8) (hr : rm'.cells = 0 ∧ rm'.slots = 0 ∧ rm'.frames + 1 ≤ rm.frames ∧ 8 + (maxL + 11) + rm'.locals ≤ rm.locals) (hd : decode cc pc = .ok (.invokestatic idx, 3)) (kk : ∀ r1 M1, G x y (pc + 3) lv rest M1 (k r1 M1)) : G x y pc lv st M (bd o1 k) := by
  intro r M' ho H locs ls hP hS hl
  obtain ⟨hx, hb, hml, hown, hts, hK, hy, hA, hcl, hsl⟩ := h
  cases ho1 : o1 with
  | none => rw [ho1] at ho; cases ho
  | some q2 =>
  rw [ho1] at ho
  have hM := hc q2.1 q2.2 ho1
  subst hst
  refine va_callv (va_runS (As := As) (rest := rest) ⟨hx, hb, hml, hown, hts⟩ hM (cwS n hts (LkS_good lk) rfl hr.1 hr.2.1 ⟨lk.2.2.1, lk.2.2.2.2.2⟩ ⟨by rw [hR]; exact hr.2.2.1, by rw [hR]; exact hr.2.2.2⟩) ⟨Pp_blind, fun U hU hW => ⟨rfl, by rw [hU]; exact hP, va_K.moved hW.alike hK⟩⟩ rfl hn hl.1 rfl (lv_room hw8) hd ⟨hcl, hsl⟩) hS (fun q _ h => hA q h) hA (fun u t H1 locs1 ht hvm hw hB hz hk hS1 => ?_)
  obtain rfl := hw
  exact kk q2.1 q2.2 r M' ho H1 locs1 ls (by rw [← ht]; exact hB) hS1 hl
def OkM (x : Cx) (y : Cy) (cc : ByteArray) (own : String) (nL : Nat) (ret : Option FieldType) (rm : Room) : Prop :=
  Ok x y cc own ∧ x.2.2.2.2.1 = nL ∧ x.1.2.2.2.1 = rm ∧ x.2.1.2.2.2.1.sig.returnType = ret ∧ x.2.1.2.2.2.1.locks = false ∧ x.2.2.1 = 0 ∧ x.2.2.2.1 = 0 ∧ x.2.2.2.2.2.1 = AA y ∧ x.2.2.2.2.2.2 = fun r M' => MQ x.2.1.2.2.1 (Qp y ret r M') x.2.1.2.1 x.1.2.2.2.2 0 0 (AA y)
theorem G_ret {x : Cx} {y : Cy} {cc : ByteArray} {own : String} {nL : Nat} {ty : FieldType} {rm : Room} (h : OkM x y cc own nL (some ty) rm) {pc : Nat} {lv : List (Nat × Value)} {M : Mem} {v : Int32} (hn : narrow ty (.int v) = .int v) (hd : decode cc pc = .ok (.ireturn, 1)) : G x y pc lv [.int v] M (some (v, M)) := by
  intro r M' ho H locs ls hP hS hl
  cases ho
  obtain ⟨⟨hx, hb, -⟩, hL, hR, hr, hlk, h1, h2, hA, hQ⟩ := h
  unfold WW
  rw [hQ, h1, h2]
  rw [hA] at hS
  exact W.zret hx hb hr hn (fun t ht hW => ⟨⟨v, M, rfl, ⟨rfl, rfl⟩, by show va_P _ _ _ _; rw [ht]; exact hP⟩, hS.F ht⟩) hS.2.2 hd hlk
theorem G_retN {x : Cx} {y : Cy} {cc : ByteArray} {own : String} {nL : Nat} {ty : FieldType} {rm : Room} (h : OkM x y cc own nL (some ty) rm) {pc : Nat} {lv : List (Nat × Value)} {M : Mem} {v : Int32} (hd : decode cc pc = .ok (.ireturn, 1)) : G x y pc lv [.int v] M (nar ty v (some (v, M))) := by
  unfold nar
  by_cases hn : narrow ty (.int v) = .int v
  · rw [if_pos hn]; exact G_ret h hn hd
  · rw [if_neg hn]; exact G_none
theorem G_vret {x : Cx} {y : Cy} {cc : ByteArray} {own : String} {nL : Nat} {rm : Room} (h : OkM x y cc own nL none rm) {pc : Nat} {lv : List (Nat × Value)} {M : Mem} (hd : decode cc pc = .ok (.return_, 1)) : G x y pc lv [] M (some (0, M)) := by
  intro r M' ho H locs ls hP hS hl
  cases ho
  obtain ⟨⟨hx, hb, -⟩, hL, hR, hr, hlk, h1, h2, hA, hQ⟩ := h
  unfold WW
  rw [hQ, h1, h2]
  rw [hA] at hS
  exact W.vret hx hb hr (fun t ht hW => ⟨⟨M, rfl, rfl, by show va_P _ _ _ _; rw [ht]; exact hP⟩, hS.F ht⟩) hS.2.2 hd hlk
/-- a contract out of the walk of the body -/
theorem CT_of {l : Launch} {y : Cy} {nm : MethodName} {cc : ByteArray} {maxL : Nat} {ret : Option FieldType} {rm : Room} {args : List Value} {M : Mem} {o : Ans} (hpl : plainName nm.cls = true) (hy : Inj y) (hlen : (lg_sl args).length ≤ maxL)
    (hG : ∀ x : Cx, x.1.2.1 = l → OkM x y cc nm.cls maxL ret rm → G x y 0 (lv_args 0 args) [] M o) : CT l y nm cc maxL ret rm args M o := by
  intro r M' ho
  refine Met.ofW (cc := cc) (maxL := maxL) (ret := ret) hpl rfl ?_
  intro p e s m av below meth c s₁ B hml hv
  obtain ⟨rfl, hP, hK⟩ := hv
  have hts := atoms_spec (ws := .code nm cc maxL ret :: TT) B.pre
  have hown : s.vm.findClass nm.cls = some m.cls := findClass_of_methodNamed B.named
  have hl := lv_entry args (n := maxL) hlen
  rw [lg_entry_eq]
  have hok : OkM ((p, l, e, rm, s), (m, args.toArray, below, meth, c), (0, 0, maxL, AA y, fun r M' => MQ below (Qp y ret r M') args.toArray s 0 0 (AA y))) y cc nm.cls maxL ret rm :=
    ⟨⟨B.exec, B.bytes, hml, hown, fun w hw => hts w (List.mem_cons_of_mem _ hw), hK, hy, fun _ h => h, Nat.zero_le _, Nat.zero_le _⟩, rfl, rfl, B.returns, B.notSynchronized, rfl, rfl, rfl, rfl⟩
  exact hG _ rfl hok r M' ho s.heap [] _ hP va_S.rf hl
