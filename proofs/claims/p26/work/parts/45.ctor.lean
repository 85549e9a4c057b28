/-! constructors: worlds as lists that grow -/
def WC (x : Cx) (H : Heap) (locs : List Loc) (kc ks : Nat) (Q : State → Prop) (g : JFrame) : Prop := W x.1.1 x.1.2.1 x.1.2.2.1 x.1.2.2.2.1 x.1.2.2.2.2 x.2.1.1 x.2.1.2.1 x.2.1.2.2.1 x.2.1.2.2.2.1 x.2.1.2.2.2.2 H locs kc ks Q g
def QC (x : Cx) : State → Prop := x.2.2.2.2.2.2 0 (fun _ _ => 0)
def OkC (x : Cx) (y : Cy) (cc : ByteArray) (own : String) (nL : Nat) (rm : Room) : Prop :=
  x.1.1.tables.exec = Jvm.exec ∧ x.2.1.2.2.2.2.code = cc ∧ x.2.1.2.2.2.2.maxLocals = nL ∧ x.1.2.2.2.2.vm.findClass own = some x.2.1.1.cls ∧ (∀ w ∈ TT, w.before x.2.1.2.1 x.1.2.2.2.2 = true) ∧ va_K y.1 CL (tyl y) x.1.2.2.2.2 ∧ (∀ q, x.1.2.2.2.2.heap.size ≤ q → x.2.2.2.2.2.1 q) ∧ x.1.2.2.2.1 = rm ∧ va_AO "BoilerBook$State" x.1.2.2.2.2
def GC (x : Cx) (y : Cy) (nL pc : Nat) (lv : List (Nat × Value)) (st : List Value) (ws : va_W) (kc ks : Nat) : Prop :=
  ∀ (H : Heap) (locs : List Loc) (ls : Array Slot), va_P y.1 CL ws H → va_D x.2.2.2.2.2.1 ws → va_S x.2.2.2.2.2.1 x.1.2.2.2.2.heap H locs → lv_has ls nL lv → WC x H locs kc ks (QC x) (F0 x.2.1.1 pc ls st)
section GCrows
variable {x : Cx} {y : Cy} {cc : ByteArray} {own : String} {nL : Nat} {rm : Room} {pc : Nat} {lv : List (Nat × Value)} {st : List Value} {ws : va_W} {kc ks : Nat}
theorem GC_aload_n (h : OkC x y cc own nL rm) {k : Fin 4} {i v : Nat} (hd : decode cc pc = .ok (.aload_n k, 1)) (hi : (k : Nat) = i) (j : Nat) (hj : lv[j]? = some (i, .ref v)) (kk : GC x y nL (pc + 1) lv (.ref v :: st) ws kc ks) : GC x y nL pc lv st ws kc ks :=
  fun H locs ls hP hD hS hl => lv_aload_n h.1 h.2.1 hd hi (lv_at hl j hj) (kk H locs ls hP hD hS hl)
theorem GC_iload_n (h : OkC x y cc own nL rm) {k : Fin 4} {i : Nat} {v : Int32} (hd : decode cc pc = .ok (.iload_n k, 1)) (hi : (k : Nat) = i) (j : Nat) (hj : lv[j]? = some (i, .int v)) (kk : GC x y nL (pc + 1) lv (.int v :: st) ws kc ks) : GC x y nL pc lv st ws kc ks :=
  fun H locs ls hP hD hS hl => lv_iload_n h.1 h.2.1 hd hi (lv_at hl j hj) (kk H locs ls hP hD hS hl)
theorem GC_istore_n (h : OkC x y cc own nL rm) {k : Fin 4} {i : Nat} {v : Int32} (lv' : List (Nat × Value)) (hd : decode cc pc = .ok (.istore_n k, 1)) (hi : (k : Nat) = i) (hn : i < nL) (hlv : (i, Value.int v) :: lv.filter (fun q => !(q.1 == i) && !(q.1 + 1 == i && q.2.category == 2)) = lv') (kk : GC x y nL (pc + 1) lv' st ws kc ks) : GC x y nL pc lv (.int v :: st) ws kc ks :=
  fun H locs ls hP hD hS hl => lv_istore_n h.1 h.2.1 hd hi hl hn hlv (fun ls' hl' => kk H locs ls' hP hD hS hl')
theorem GC_astore_n (h : OkC x y cc own nL rm) {k : Fin 4} {i : Nat} {v : Nat} (lv' : List (Nat × Value)) (hd : decode cc pc = .ok (.astore_n k, 1)) (hi : (k : Nat) = i) (hn : i < nL) (hlv : (i, Value.ref v) :: lv.filter (fun q => !(q.1 == i) && !(q.1 + 1 == i && q.2.category == 2)) = lv') (kk : GC x y nL (pc + 1) lv' st ws kc ks) : GC x y nL pc lv (.ref v :: st) ws kc ks :=
  fun H locs ls hP hD hS hl => lv_astore_n h.1 h.2.1 hd hi hl hn hlv (fun ls' hl' => kk H locs ls' hP hD hS hl')
theorem GC_iinc (h : OkC x y cc own nL rm) {i : Nat} {n : Int} {a v : Int32} (lv' : List (Nat × Value)) (hd : decode cc pc = .ok (.iinc i n, 3)) (hn : i < nL) (j : Nat) (hj : lv[j]? = some (i, .int a)) (hv : a + Int32.ofInt n = v) (hlv : (i, Value.int v) :: lv.filter (fun q => !(q.1 == i) && !(q.1 + 1 == i && q.2.category == 2)) = lv') (kk : GC x y nL (pc + 3) lv' st ws kc ks) : GC x y nL pc lv st ws kc ks :=
  fun H locs ls hP hD hS hl => lv_iinc h.1 h.2.1 hd hl hj hv hn hlv (fun ls' hl' => kk H locs ls' hP hD hS hl')
theorem GC_iconst (h : OkC x y cc own nL rm) {n : Int} {v : Int32} (hd : decode cc pc = .ok (.iconst n, 1)) (hv : Int32.ofInt n = v) (kk : GC x y nL (pc + 1) lv (.int v :: st) ws kc ks) : GC x y nL pc lv st ws kc ks :=
  fun H locs ls hP hD hS hl => lv_iconst h.1 h.2.1 hd hv (kk H locs ls hP hD hS hl)
theorem GC_bipush (h : OkC x y cc own nL rm) {n : Int} {v : Int32} (hd : decode cc pc = .ok (.bipush n, 2)) (hv : (Int8.ofInt n).toInt32 = v) (kk : GC x y nL (pc + 2) lv (.int v :: st) ws kc ks) : GC x y nL pc lv st ws kc ks :=
  fun H locs ls hP hD hS hl => lv_bipush h.1 h.2.1 hd hv (kk H locs ls hP hD hS hl)
theorem GC_sipush (h : OkC x y cc own nL rm) {n : Int} {v : Int32} (hd : decode cc pc = .ok (.sipush n, 3)) (hv : (Int16.ofInt n).toInt32 = v) (kk : GC x y nL (pc + 3) lv (.int v :: st) ws kc ks) : GC x y nL pc lv st ws kc ks :=
  fun H locs ls hP hD hS hl => lv_sipush h.1 h.2.1 hd hv (kk H locs ls hP hD hS hl)
theorem GC_dup (h : OkC x y cc own nL rm) {v : Value} (hd : decode cc pc = .ok (.dup, 1)) (hv : v.category = 1) (kk : GC x y nL (pc + 1) lv (v :: v :: st) ws kc ks) : GC x y nL pc lv (v :: st) ws kc ks :=
  fun H locs ls hP hD hS hl => lv_dup h.1 h.2.1 hd hv (kk H locs ls hP hD hS hl)
theorem GC_goto (h : OkC x y cc own nL rm) {off : Int} {tgt : Nat} (hd : decode cc pc = .ok (.goto off, 3)) (ht : (pc : Int) + off = (tgt : Int)) (kk : GC x y nL tgt lv st ws kc ks) : GC x y nL pc lv st ws kc ks :=
  fun H locs ls hP hD hS hl => lv_goto h.1 h.2.1 hd ht (kk H locs ls hP hD hS hl)
theorem GC_geT (h : OkC x y cc own nL rm) {a b : Int32} {off : Int} {tgt : Nat} (hd : decode cc pc = .ok (.if_icmp .ge off, 3)) (ht : (pc : Int) + off = (tgt : Int)) (hc : b ≤ a) (kk : GC x y nL tgt lv st ws kc ks) : GC x y nL pc lv (.int b :: .int a :: st) ws kc ks :=
  fun H locs ls hP hD hS hl => lv_icmp_ge h.1 h.2.1 hd ht (fun _ => kk H locs ls hP hD hS hl) (fun c => absurd hc c)
theorem GC_geF (h : OkC x y cc own nL rm) {a b : Int32} {off : Int} {tgt : Nat} (hd : decode cc pc = .ok (.if_icmp .ge off, 3)) (ht : (pc : Int) + off = (tgt : Int)) (hc : ¬ b ≤ a) (kk : GC x y nL (pc + 3) lv st ws kc ks) : GC x y nL pc lv (.int b :: .int a :: st) ws kc ks :=
  fun H locs ls hP hD hS hl => lv_icmp_ge h.1 h.2.1 hd ht (fun c => absurd c hc) (fun _ => kk H locs ls hP hD hS hl)
theorem GC_obj (h : OkC x y cc own nL rm) {idx a : Nat} (h1 : Cond.methodLink own idx Lib.objectInit ∈ TT) (h2 : Cond.instanceMethod Lib.objectInit ∈ TT) (h3 : Cond.code Lib.objectInit ⟨#[0xb1]⟩ 1 none ∈ TT) (hd : decode cc pc = .ok (.invokespecial idx, 3)) (hf : 1 ≤ rm.frames) (hlo : (st.map fun v => v.category).sum + 12 ≤ rm.locals) (kk : GC x y nL (pc + 3) lv st ws kc ks) : GC x y nL pc lv (.ref a :: st) ws kc ks := by
  intro H locs ls hP hD hS hl
  obtain ⟨hx, hb, hml, hown, hts, hK, hA, hR, hAO⟩ := h
  refine W.objInit hx hb hown (hts _ h1) (hts _ h2) (hts _ h3) rfl (by rw [hml]; exact hl.1) rfl hd (by rw [hR]; exact hf) (by rw [hR]; show 2 * 0 + _ + 12 ≤ _; omega) ?_
  exact kk H locs ls hP hD hS hl
theorem GC_get (h : OkC x y cc own nL rm) {a idx ci k : Nat} (q0 : Nat) {fs : List Value} {v : Value} (hf : FL own idx ci k) (he : ws[q0]? = some (a, .inr (ci, fs))) (hv : fs[k]? = some v) (hd : decode cc pc = .ok (.getfield idx, 3)) (kk : GC x y nL (pc + 3) lv (v :: st) ws kc ks) : GC x y nL pc lv (.ref a :: st) ws kc ks := by
  intro H locs ls hP hD hS hl
  obtain ⟨C, T, N, hc, hk, hin, hC, hlink⟩ := hf
  obtain ⟨hx, hb, hml, hown, hts, hK, hA, hR, hAO⟩ := h
  exact va_get (D := y.1) (C := C) (T := T) (N := N) (ref := C) hx hb hts hin hown hK hP q0 he hc k hk (hts _ hlink) (fun z hz => by rw [hC] at hz; exact hz) hv hd (kk H locs ls hP hD hS hl)
theorem GC_put (h : OkC x y cc own nL rm) {a idx ci k : Nat} (q0 : Nat) {ty : FieldType} {fs : List Value} {v : Value} (ws' : va_W) (hf : FP own idx ci k ty) (he : ws[q0]? = some (a, .inr (ci, fs))) (hn : narrow ty v = v) (hfit : fits ty v = true) (hl0 : k < fs.length) (hws : ws.set q0 (a, .inr (ci, fs.set k v)) = ws') (hd : decode cc pc = .ok (.putfield idx, 3)) (kk : GC x y nL (pc + 3) lv st ws' kc ks) : GC x y nL pc lv (v :: .ref a :: st) ws kc ks := by
  intro H locs ls hP hD hS hl
  obtain ⟨C, T, N, t0, hc, hk, hin, hC, hlink, hty, hnm, hfin, hpd⟩ := hf
  obtain ⟨hx, hb, hml, hown, hts, hK, hA, hR, hAO⟩ := h
  refine va_put (D := y.1) (C := C) (T := T) (N := N) (ref := C) hx hb hts hin t0 hty hnm hown hK hP hD hS q0 he hc k hk (hts _ hlink) (fun z hz => by rw [hC] at hz; exact hz) hfin hpd hn hfit hl0 hd (fun H1 locs1 hP1 hD1 hS1 => ?_)
  rw [hws] at hP1 hD1
  exact kk H1 locs1 ls hP1 hD1 hS1 hl
/-- a final field, put in its own constructor -/
def FPF (own : String) (idx ci k : Nat) (ty : FieldType) : Prop := ∃ (C : String) (T : u_T) (N : Nat) (t0 : Nat → FieldType), CL[ci]? = some (C, T, N) ∧ k < N ∧ (∀ w ∈ u_ws C T N, w ∈ TT) ∧ (T k).1 = C ∧ Cond.fieldLink own idx C (T k).2.1 (T k).2.2.1 ∈ TT ∧ (∀ k, k < N → parseFieldDescriptor (T k).2.2.1 = some (t0 k)) ∧ (∀ a, a < N → ∀ b, b < N → a ≠ b → (T a).2.1 ≠ (T b).2.1) ∧ (T k).2.2.2 = true ∧ parseFieldDescriptor (T k).2.2.1 = some ty ∧ (T k).1 = own
theorem GC_putF (h : OkC x y cc own nL rm) (hin2 : x.2.1.2.2.2.1.name = "<init>") {a idx ci k : Nat} (q0 : Nat) {ty : FieldType} {fs : List Value} {v : Value} (ws' : va_W) (hf : FPF own idx ci k ty) (he : ws[q0]? = some (a, .inr (ci, fs))) (hn : narrow ty v = v) (hfit : fits ty v = true) (hl0 : k < fs.length) (hws : ws.set q0 (a, .inr (ci, fs.set k v)) = ws') (hd : decode cc pc = .ok (.putfield idx, 3)) (kk : GC x y nL (pc + 3) lv st ws' kc ks) : GC x y nL pc lv (v :: .ref a :: st) ws kc ks := by
  intro H locs ls hP hD hS hl
  obtain ⟨C, T, N, t0, hc, hk, hin, hC, hlink, hty, hnm, hfin, hpd, hdecl⟩ := hf
  obtain ⟨hx, hb, hml, hown, hts, hK, hA, hR, hAO⟩ := h
  refine va_putF (D := y.1) (C := C) (T := T) (N := N) (ref := C) hx hb hts hin t0 hty hnm hown hK hP hD hS q0 he hc k hk (hts _ hlink) (fun z hz => by rw [hC] at hz; exact hz) hfin hin2 hdecl hpd hn hfit hl0 hd (fun H1 locs1 hP1 hD1 hS1 => ?_)
  rw [hws] at hP1 hD1
  exact kk H1 locs1 ls hP1 hD1 hS1 hl
def LNw (own : String) (idx : Nat) (C : String) (T : u_T) (N ci : Nat) (ty : Nat → FieldType) : Prop := CL[ci]? = some (C, T, N) ∧ (∀ w ∈ u_ws C T N, w ∈ TT) ∧ (∀ k, k < N → parseFieldDescriptor (T k).2.2.1 = some (ty k)) ∧ Cond.classLink own idx C ∈ TT ∧ Cond.instantiable C N ∈ TT ∧ Cond.initialized C ∈ TT
theorem GC_new (h : OkC x y cc own nL rm) {C : String} {T : u_T} {N ci idx : Nat} {ty : Nat → FieldType} (lk : LNw own idx C T N ci ty) {fs : List Value} (hfs : ∀ j, j < N → defaultValue (ty j) = vp_V fs j) (hcells : kc + 1 ≤ rm.cells) (hslots : ks + N ≤ rm.slots) (hd : decode cc pc = .ok (.new idx, 3)) (kk : ∀ q, GC x y nL (pc + 3) lv (.ref q :: st) (ws ++ [(q, .inr (ci, fs))]) (kc + 1) (ks + N)) : GC x y nL pc lv st ws kc ks := by
  intro H locs ls hP hD hS hl
  obtain ⟨hx, hb, hml, hown, hts, hK, hA, hR, hAO⟩ := h
  obtain ⟨hc, hin, hty, h1, h2, h3⟩ := lk
  exact va_new (ci := ci) (fs := fs) (C := C) (T := T) (N := N) hx hb hts hin ty hty hown (hts _ h1) (hts _ h2) (hts _ h3) hK hP hD hS hA hc hfs (by rw [hR]; exact hcells) (by rw [hR]; exact hslots) hd (fun q H1 hP1 hD1 hS1 => kk q H1 locs ls hP1 hD1 hS1 hl)
theorem GC_newa (h : OkC x y cc own nL rm) {at_ : ArrayType} {ty : FieldType} (t : Nat) (hty : newarray.typeOf at_ = ty) (hw : Cond.arrayClass ty ∈ TT) (ht : (tyl y)[t]? = some (y.2.2 t, ty)) (hprim : ∀ (U : State) (cA : ClassId), va_RA U cA ty → U.vm.findClass ("[" ++ ty.toString) = some cA) {n : Int32} {N' : Nat} (ha : ∀ cA : ClassId, vp_cell cA (N', .inl (fun _ => 0)) = arrV cA N' (fun _ => defaultValue ty)) (hn : ¬ n < 0) (hN : n.toNatClampNeg = N') (hbytes : N' * componentBytes ty ≤ 536870912) (hcells : kc + 1 ≤ rm.cells) (hslots : ks + N' ≤ rm.slots) (hd : decode cc pc = .ok (.newarray at_, 2)) (kk : ∀ q, GC x y nL (pc + 2) lv (.ref q :: st) (ws ++ [(q, .inl (y.2.2 t, (N', .inl (fun _ => 0))))]) (kc + 1) (ks + N')) : GC x y nL pc lv (.int n :: st) ws kc ks := by
  intro H locs ls hP hD hS hl
  obtain ⟨hx, hb, hml, hown, hts, hK, hA, hR, hAO⟩ := h
  subst hty
  refine va_newa (atype := at_) hx hb (hts _ hw) rfl hK hP hD hS hA ha hn hN hbytes (by rw [hR]; exact hcells) (by rw [hR]; exact hslots) hd (fun q cA H1 hK1 hP1 hD1 hS1 => ?_)
  have e1 := hprim _ _ (hK1.2 (tyl y).length (cA, newarray.typeOf at_) (by rw [List.getElem?_append_right (Nat.le_refl _), Nat.sub_self]; rfl)).2
  have e2 := hprim _ _ (hK.2 t _ ht).2
  have e3 : cA = y.2.2 t := Option.some.inj (e1.symm.trans e2)
  subst e3
  exact kk q H1 locs ls hP1 hD1 hS1 hl
theorem GC_newq (h : OkC x y cc own nL rm) {idx : Nat} (h1 : Cond.classLink own idx "BoilerBook$State" ∈ TT) {n : Int32} {N' : Nat} (hn : ¬ n < 0) (hN : n.toNatClampNeg = N') (hbytes : N' * 4 ≤ 536870912) (hcells : kc + 1 ≤ rm.cells) (hslots : ks + N' ≤ rm.slots) (hd : decode cc pc = .ok (.anewarray idx, 3)) (kk : ∀ q, GC x y nL (pc + 3) lv (.ref q :: st) (ws ++ [(q, .inl (y.2.2 3, (N', .inr (.inr (.inr (.inr (fun _ => none)))))))]) (kc + 1) (ks + N')) : GC x y nL pc lv (.int n :: st) ws kc ks := by
  intro H locs ls hP hD hS hl
  obtain ⟨hx, hb, hml, hown, hts, hK, hA, hR, hAO⟩ := h
  refine va_newq hx hb hown (hts _ h1) hAO hK hP hD hS hA hn hN hbytes (by rw [hR]; exact hcells) (by rw [hR]; exact hslots) hd (fun q cA H1 hK1 hP1 hD1 hS1 => ?_)
  obtain ⟨_, _, _, _, _, e1⟩ := (hK1.2 (tyl y).length (cA, .object "BoilerBook$State") (by rw [List.getElem?_append_right (Nat.le_refl _), Nat.sub_self]; rfl)).2
  obtain ⟨_, _, _, _, _, e2⟩ := (hK.2 3 (y.2.2 3, .object "BoilerBook$State") rfl).2
  have e3 : cA = y.2.2 3 := Option.some.inj (e1.symm.trans e2)
  subst e3
  exact kk q H1 locs ls hP1 hD1 hS1 hl
theorem GC_iast (h : OkC x y cc own nL rm) {a n : Nat} (q0 : Nat) {f : Nat → Int32} {i v : Int32} (ws' : va_W) (he : ws[q0]? = some (a, .inl (y.2.2 0, (n, .inl f)))) (hin : vp_in i n) (hws : ws.set q0 (a, .inl (y.2.2 0, (n, .inl (upd f i.toNatClampNeg v)))) = ws') (hd : decode cc pc = .ok (.iastore, 1)) (kk : GC x y nL (pc + 1) lv st ws' kc ks) : GC x y nL pc lv (.int v :: .int i :: .ref a :: st) ws kc ks := by
  intro H locs ls hP hD hS hl
  obtain ⟨hx, hb, hml, hown, hts, hK, hA, hR, hAO⟩ := h
  refine va_iast hx hb hK hP hD hS q0 0 he rfl hin hd (fun H1 locs1 hP1 hD1 hS1 => ?_)
  rw [hws] at hP1 hD1
  exact kk H1 locs1 ls hP1 hD1 hS1 hl
theorem GC_aast (h : OkC x y cc own nL rm) {a n v : Nat} (q0 : Nat) {vs : List Value} {f : Nat → Option Nat} {i : Int32} (ws' : va_W) (he : ws[q0]? = some (a, .inl (y.2.2 3, (n, .inr (.inr (.inr (.inr f))))))) (hm : (v, (.inr (5, vs) : va_E)) ∈ ws) (hin : vp_in i n) (hws : ws.set q0 (a, .inl (y.2.2 3, (n, .inr (.inr (.inr (.inr (va_up f i.toNatClampNeg (some v)))))))) = ws') (hd : decode cc pc = .ok (.aastore, 1)) (kk : GC x y nL (pc + 1) lv st ws' kc ks) : GC x y nL pc lv (.ref v :: .int i :: .ref a :: st) ws kc ks := by
  intro H locs ls hP hD hS hl
  obtain ⟨hx, hb, hml, hown, hts, hK, hA, hR, hAO⟩ := h
  obtain ⟨qk, hqk⟩ := List.getElem?_of_mem hm
  refine va_astq hx hb hK hP hD hS q0 3 qk 5 (r := (RX5, TX5, 10)) he rfl hqk rfl hin hd (fun H1 locs1 hP1 hD1 hS1 => ?_)
  rw [hws] at hP1 hD1
  exact kk H1 locs1 ls hP1 hD1 hS1 hl
def AN (h0 sz : Nat) : Nat → Prop := fun q => q = h0 ∨ sz ≤ q
def CI (l : Launch) (y : Cy) (nm : MethodName) (cc : ByteArray) (maxL : Nat) (rm : Room) (ci : Nat) (fs0 : List Value) (Wr : (Nat → Nat) → va_W) : Prop :=
  ∀ h0 sz, Met l nm (.code nm cc maxL none :: TT) rm (va_Pc [.ref h0] (fun U => U.heap.size = sz ∧ h0 < sz ∧ va_P y.1 CL [(h0, .inr (ci, fs0))] U.heap ∧ va_K y.1 CL (tyl y) U ∧ va_AO "BoilerBook$State" U)) (va_Qv (fun b : Nat → Nat => b 0 = h0) (fun b t => va_P y.1 CL (Wr b) t.heap ∧ va_D (AN h0 sz) (Wr b)) (AN h0 sz)) rm.cells rm.slots (AN h0 sz)
def LkI (own : String) (idx : Nat) (nm : MethodName) (cc : ByteArray) (maxL : Nat) : Prop :=
  Cond.methodLink own idx nm ∈ TT ∧ Cond.instanceMethod nm ∈ TT ∧ Cond.initialized nm.cls ∈ TT ∧ Cond.code nm cc maxL none ∈ TT ∧ nm.name = "<init>" ∧ (nm.cls ≠ "java/lang/invoke/MethodHandle" ∧ nm.cls ≠ "java/lang/invoke/VarHandle" ∧ (parseMethodDescriptor nm.desc).map (fun d => d.parameters.length) = some 0)
theorem GC_call (h : OkC x y cc own nL rm) {idx maxL ci : Nat} {nm : MethodName} {bytes : ByteArray} {rm' : Room} {fs0 : List Value} {Wr : (Nat → Nat) → va_W} {q : Nat} (lk : LkI own idx nm bytes maxL) (hc : CI x.1.2.1 y nm bytes maxL rm' ci fs0 Wr) (hw8 : (st.map fun v => v.category).sum ≤ 8) (hr : rm'.frames + 1 ≤ rm.frames ∧ 8 + (maxL + 11) + rm'.locals ≤ rm.locals) (hcs : kc + rm'.cells ≤ rm.cells ∧ ks + rm'.slots ≤ rm.slots) (wh : va_W) (hwh : ws = wh ++ [(q, .inr (ci, fs0))]) (hd : decode cc pc = .ok (.invokespecial idx, 3)) (kk : ∀ b : Nat → Nat, b 0 = q → GC x y nL (pc + 3) lv st (wh ++ Wr b) (kc + rm'.cells) (ks + rm'.slots)) : GC x y nL pc lv (.ref q :: st) ws kc ks := by
  intro H locs ls hP hD hS hl
  obtain ⟨hx, hb, hml, hown, hts, hK, hA, hR, hAO⟩ := h
  subst hwh
  obtain ⟨l1, l2, l3, l4, l5, l6⟩ := lk
  have hlast : (wh ++ [(q, (.inr (ci, fs0) : va_E))])[wh.length]? = some (q, .inr (ci, fs0)) := by rw [List.getElem?_append_right (Nat.le_refl _), Nat.sub_self]; rfl
  have hq := (hP _ _ hlast).lt
  have hPc : va_P y.1 CL [(q, .inr (ci, fs0))] H := fun k p hk => by
    have hz : k < 1 := (List.getElem?_eq_some_iff.mp hk).1
    rw [show k = 0 by omega] at hk
    cases hk
    exact hP _ _ hlast
  have hg : GoodIn TT (.code nm bytes maxL none :: TT) := fun w hw => TT_good w (by
    rcases List.mem_cons.mp hw with rfl | hw
    · exact l4
    · exact hw)
  have hAN : ∀ p, AN q H.size p → x.2.2.2.2.2.1 p := fun p hp => by
    rcases hp with rfl | hp
    · exact hD.2 _ _ hlast
    · exact hA p (Nat.le_trans hS.1 hp)
  refine va_callv (va_runI (As := []) (rest := st) ⟨hx, hb, hml, hown, hts⟩ (hc q H.size) (cwI 0 hts hg rfl rfl rfl (hts _ l3) (hts _ l1) (hts _ l2) l5 l6 ⟨by rw [hR]; exact hr.1, by rw [hR]; exact hr.2⟩) ⟨fun a U g mk z => ⟨z.1, z.2.1, z.2.2.1, z.2.2.2.1, va_K.moved (u := U) (U := U.calling g mk a) (Vm.Alike.refl U.vm) z.2.2.2.2.1, va_AO.moved (u := U) (U := U.calling g mk a) (Vm.Alike.refl U.vm) z.2.2.2.2.2⟩, fun U hU hW => ⟨rfl, by rw [hU], hq, by rw [hU]; exact hPc, va_K.moved hW.alike hK, va_AO.moved hW.alike hAO⟩⟩ rfl rfl hl.1 rfl (lv_room hw8) hd ⟨by rw [hR]; exact hcs.1, by rw [hR]; exact hcs.2⟩) hS (fun p _ hp => hAN p hp) hAN (fun b t H1 locs1 ht hvm hw hB hz hk hS1 => ?_)
  obtain ⟨hP1, hD1⟩ := hB
  rw [ht] at hP1
  have apart : ∀ (k : Nat) (p : Nat × va_E), wh[k]? = some p → p.1 < H.size ∧ ¬ AN q H.size p.1 := by
    intro k p hk0
    have hkl : k < wh.length := (List.getElem?_eq_some_iff.mp hk0).1
    have hk1 : (wh ++ [(q, (.inr (ci, fs0) : va_E))])[k]? = some p := by rw [List.getElem?_append_left hkl]; exact hk0
    have hlt := (hP _ _ hk1).lt
    refine ⟨hlt, fun z => ?_⟩
    rcases z with z | z
    · have := hD.1 k wh.length p _ hk1 hlast z
      omega
    · omega
  have hDw : va_D x.2.2.2.2.2.1 wh := ⟨fun i j p r hi hj hpr => hD.1 i j p r (by rw [List.getElem?_append_left (List.getElem?_eq_some_iff.mp hi).1]; exact hi) (by rw [List.getElem?_append_left (List.getElem?_eq_some_iff.mp hj).1]; exact hj) hpr, fun k p hk0 => hD.2 k p (by rw [List.getElem?_append_left (List.getElem?_eq_some_iff.mp hk0).1]; exact hk0)⟩
  refine kk b hw H1 locs1 ls (va_P.app (fun k p hk0 => ?_) hP1) (va_D.app hDw (hD1.weaken (fun k p _ hp => hAN p.1 hp)) (fun i j p r hi hj hpr => ?_)) hS1 hl
  · obtain ⟨g1, g2⟩ := apart k p hk0
    exact (hP k p (by rw [List.getElem?_append_left (List.getElem?_eq_some_iff.mp hk0).1]; exact hk0)).kept (hk p.1 g1 g2)
  · exact (apart i p hi).2 (by rw [hpr]; exact hD1.2 j r hj)
theorem GC_ret (h : OkC x y cc own nL rm) {h0 sz : Nat} {Wr : (Nat → Nat) → va_W} (hlk : x.2.1.2.2.2.1.locks = false) (hret : x.2.1.2.2.2.1.sig.returnType = none) (hQ : QC x = MQ x.2.1.2.2.1 (va_Qv (fun b : Nat → Nat => b 0 = h0) (fun b t => va_P y.1 CL (Wr b) t.heap ∧ va_D (AN h0 sz) (Wr b)) (AN h0 sz)) x.2.1.2.1 x.1.2.2.2.2 rm.cells rm.slots (AN h0 sz)) (hAe : x.2.2.2.2.2.1 = AN h0 sz) (b : Nat → Nat) (hb0 : b 0 = h0) (hws : ws = Wr b) (hkc : kc = rm.cells) (hks : ks = rm.slots) (hd : decode cc pc = .ok (.return_, 1)) : GC x y nL pc lv [] ws kc ks := by
  intro H locs ls hP hD hS hl
  obtain ⟨hx, hb, hml, hown, hts, hK, hA, hR, hAO⟩ := h
  subst hws
  subst hkc
  subst hks
  unfold WC
  rw [hQ]
  rw [hAe] at hS hD
  exact W.vret hx hb hret (fun t ht hW => ⟨⟨b, rfl, hb0, by rw [ht]; exact hP, hD⟩, hS.F ht⟩) hS.2.2 hd hlk
theorem CI_of {l : Launch} {nm : MethodName} {maxL ci : Nat} {fs0 : List Value} {Wr : (Nat → Nat) → va_W} (hpl : plainName nm.cls = true) (hmx : 1 ≤ maxL)
    (hG : ∀ (x : Cx) (h0 sz : Nat), x.1.2.1 = l → OkC x y cc nm.cls maxL rm → x.2.1.2.2.2.1.name = "<init>" ∨ nm.name ≠ "<init>" → x.2.1.2.2.2.1.locks = false → x.2.1.2.2.2.1.sig.returnType = none → QC x = MQ x.2.1.2.2.1 (va_Qv (fun b : Nat → Nat => b 0 = h0) (fun b t => va_P y.1 CL (Wr b) t.heap ∧ va_D (AN h0 sz) (Wr b)) (AN h0 sz)) x.2.1.2.1 x.1.2.2.2.2 rm.cells rm.slots (AN h0 sz) → x.2.2.2.2.2.1 = AN h0 sz → GC x y maxL 0 [(0, .ref h0)] [] [(h0, .inr (ci, fs0))] 0 0) : CI l y nm cc maxL rm ci fs0 Wr := by
  intro h0 sz
  refine Met.ofW (cc := cc) (maxL := maxL) (ret := none) hpl rfl ?_
  intro p e s m av below meth c s₁ B hml hv
  obtain ⟨rfl, hsz, hlt, hP, hK, hAO⟩ := hv
  have hts := atoms_spec (ws := .code nm cc maxL none :: TT) B.pre
  have hown : s.vm.findClass nm.cls = some m.cls := findClass_of_methodNamed B.named
  have hl := lv_entry [Value.ref h0] (n := maxL) hmx
  rw [lg_entry_eq]
  have hnm : meth.name = nm.name := (name_of_methodNamed B.named B.method).1
  have hok : OkC ((p, l, e, rm, s), (m, ([Value.ref h0] : List Value).toArray, below, meth, c), (0, 0, maxL, AN h0 sz, fun _ _ => MQ below (va_Qv (fun b : Nat → Nat => b 0 = h0) (fun b t => va_P y.1 CL (Wr b) t.heap ∧ va_D (AN h0 sz) (Wr b)) (AN h0 sz)) ([Value.ref h0] : List Value).toArray s rm.cells rm.slots (AN h0 sz))) y cc nm.cls maxL rm :=
    ⟨B.exec, B.bytes, hml, hown, fun w hw => hts w (List.mem_cons_of_mem _ hw), hK, fun q hq => Or.inr (by rw [← hsz]; exact hq), rfl, hAO⟩
  refine hG _ h0 sz rfl hok ?_ B.notSynchronized B.returns rfl rfl s.heap [] _ hP ⟨fun i j p q hi hj _ => ?_, fun k q hk => ?_⟩ va_S.rf hl
  · by_cases hq : nm.name = "<init>"
    · exact Or.inl (hnm.trans hq)
    · exact Or.inr hq
  · have h1 : i < 1 := (List.getElem?_eq_some_iff.mp hi).1
    have h2 : j < 1 := (List.getElem?_eq_some_iff.mp hj).1
    omega
  · have h1 : k < 1 := (List.getElem?_eq_some_iff.mp hk).1
    rw [show k = 0 by omega] at hk
    cases hk
    exact Or.inl rfl
end GCrows
theorem oi_inst : Cond.instanceMethod Lib.objectInit ∈ TT := (tt_mem 19 (by decide +kernel) rfl)
theorem oi_code : Cond.code Lib.objectInit ⟨#[0xb1]⟩ 1 none ∈ TT := (tt_mem 20 (by decide +kernel) rfl)
theorem li_L_9 : LkI RL 9 yX8_init cX8_init 1 := ⟨(tt_mem 15 (by decide +kernel) rfl), (tt_mem 16 (by decide +kernel) rfl), (tt_mem 1 (by decide +kernel) rfl), (tt_mem 17 (by decide +kernel) rfl), rfl, by decide +kernel⟩
theorem ol_X8_3 : Cond.methodLink RX8 3 Lib.objectInit ∈ TT := (tt_mem 18 (by decide +kernel) rfl)
theorem li_X8_11 : LkI RX8 11 yX5_init cX5_init 1 := ⟨(tt_mem 23 (by decide +kernel) rfl), (tt_mem 24 (by decide +kernel) rfl), (tt_mem 2 (by decide +kernel) rfl), (tt_mem 25 (by decide +kernel) rfl), rfl, by decide +kernel⟩
theorem ol_X5_3 : Cond.methodLink RX5 3 Lib.objectInit ∈ TT := (tt_mem 26 (by decide +kernel) rfl)
theorem li_X5_23 : LkI RX5 23 yX4_init cX4_init 1 := ⟨(tt_mem 29 (by decide +kernel) rfl), (tt_mem 30 (by decide +kernel) rfl), (tt_mem 3 (by decide +kernel) rfl), (tt_mem 31 (by decide +kernel) rfl), rfl, by decide +kernel⟩
theorem ol_X4_3 : Cond.methodLink RX4 3 Lib.objectInit ∈ TT := (tt_mem 32 (by decide +kernel) rfl)
theorem li_X5_30 : LkI RX5 30 yX0_init cX0_init 1 := ⟨(tt_mem 60 (by decide +kernel) rfl), (tt_mem 61 (by decide +kernel) rfl), (tt_mem 4 (by decide +kernel) rfl), (tt_mem 62 (by decide +kernel) rfl), rfl, by decide +kernel⟩
theorem ol_X0_3 : Cond.methodLink RX0 3 Lib.objectInit ∈ TT := (tt_mem 63 (by decide +kernel) rfl)
theorem li_X5_37 : LkI RX5 37 yX7_init cX7_init 1 := ⟨(tt_mem 99 (by decide +kernel) rfl), (tt_mem 100 (by decide +kernel) rfl), (tt_mem 5 (by decide +kernel) rfl), (tt_mem 101 (by decide +kernel) rfl), rfl, by decide +kernel⟩
theorem ol_X7_3 : Cond.methodLink RX7 3 Lib.objectInit ∈ TT := (tt_mem 102 (by decide +kernel) rfl)
theorem li_X8_28 : LkI RX8 28 yX2_init cX2_init 2 := ⟨(tt_mem 171 (by decide +kernel) rfl), (tt_mem 172 (by decide +kernel) rfl), (tt_mem 6 (by decide +kernel) rfl), (tt_mem 173 (by decide +kernel) rfl), rfl, by decide +kernel⟩
theorem ol_X2_3 : Cond.methodLink RX2 3 Lib.objectInit ∈ TT := (tt_mem 174 (by decide +kernel) rfl)
theorem li_X2_17 : LkI RX2 17 yX5_init cX5_init 1 := ⟨(tt_mem 177 (by decide +kernel) rfl), (tt_mem 24 (by decide +kernel) rfl), (tt_mem 2 (by decide +kernel) rfl), (tt_mem 25 (by decide +kernel) rfl), rfl, by decide +kernel⟩
theorem li_X8_35 : LkI RX8 35 yX6_init cX6_init 1 := ⟨(tt_mem 188 (by decide +kernel) rfl), (tt_mem 189 (by decide +kernel) rfl), (tt_mem 7 (by decide +kernel) rfl), (tt_mem 190 (by decide +kernel) rfl), rfl, by decide +kernel⟩
theorem ol_X6_3 : Cond.methodLink RX6 3 Lib.objectInit ∈ TT := (tt_mem 191 (by decide +kernel) rfl)
theorem li_X8_42 : LkI RX8 42 yX1_init cX1_init 1 := ⟨(tt_mem 222 (by decide +kernel) rfl), (tt_mem 223 (by decide +kernel) rfl), (tt_mem 8 (by decide +kernel) rfl), (tt_mem 224 (by decide +kernel) rfl), rfl, by decide +kernel⟩
theorem ol_X1_3 : Cond.methodLink RX1 3 Lib.objectInit ∈ TT := (tt_mem 225 (by decide +kernel) rfl)
theorem li_X8_49 : LkI RX8 49 yX3_init cX3_init 1 := ⟨(tt_mem 294 (by decide +kernel) rfl), (tt_mem 295 (by decide +kernel) rfl), (tt_mem 9 (by decide +kernel) rfl), (tt_mem 296 (by decide +kernel) rfl), rfl, by decide +kernel⟩
theorem ol_X3_3 : Cond.methodLink RX3 3 Lib.objectInit ∈ TT := (tt_mem 297 (by decide +kernel) rfl)
theorem li_X3_11 : LkI RX3 11 yX1_init cX1_init 1 := ⟨(tt_mem 299 (by decide +kernel) rfl), (tt_mem 223 (by decide +kernel) rfl), (tt_mem 8 (by decide +kernel) rfl), (tt_mem 224 (by decide +kernel) rfl), rfl, by decide +kernel⟩
theorem li_L_12 : LkI RL 12 yX9_init cX9_init 1 := ⟨(tt_mem 728 (by decide +kernel) rfl), (tt_mem 729 (by decide +kernel) rfl), (tt_mem 10 (by decide +kernel) rfl), (tt_mem 730 (by decide +kernel) rfl), rfl, by decide +kernel⟩
theorem ol_X9_1 : Cond.methodLink RX9 1 Lib.objectInit ∈ TT := (tt_mem 731 (by decide +kernel) rfl)
theorem ln_L_7 : LNw RL 7 RX8 TX8 9 8 tyX8 := ⟨rfl, uTX8, tyX8_ok, (tt_mem 13 (by decide +kernel) rfl), (tt_mem 14 (by decide +kernel) rfl), (tt_mem 1 (by decide +kernel) rfl)⟩
theorem ln_X8_9 : LNw RX8 9 RX5 TX5 10 5 tyX5 := ⟨rfl, uTX5, tyX5_ok, (tt_mem 21 (by decide +kernel) rfl), (tt_mem 22 (by decide +kernel) rfl), (tt_mem 2 (by decide +kernel) rfl)⟩
theorem ln_X5_21 : LNw RX5 21 RX4 TX4 5 4 tyX4 := ⟨rfl, uTX4, tyX4_ok, (tt_mem 27 (by decide +kernel) rfl), (tt_mem 28 (by decide +kernel) rfl), (tt_mem 3 (by decide +kernel) rfl)⟩
theorem ln_X5_28 : LNw RX5 28 RX0 TX0 6 0 tyX0 := ⟨rfl, uTX0, tyX0_ok, (tt_mem 58 (by decide +kernel) rfl), (tt_mem 59 (by decide +kernel) rfl), (tt_mem 4 (by decide +kernel) rfl)⟩
theorem ln_X5_35 : LNw RX5 35 RX7 TX7 4 7 tyX7 := ⟨rfl, uTX7, tyX7_ok, (tt_mem 97 (by decide +kernel) rfl), (tt_mem 98 (by decide +kernel) rfl), (tt_mem 5 (by decide +kernel) rfl)⟩
theorem ln_X8_26 : LNw RX8 26 RX2 TX2 2 2 tyX2 := ⟨rfl, uTX2, tyX2_ok, (tt_mem 169 (by decide +kernel) rfl), (tt_mem 170 (by decide +kernel) rfl), (tt_mem 6 (by decide +kernel) rfl)⟩
theorem cl_X2_9 : Cond.classLink RX2 9 "BoilerBook$State" ∈ TT := (tt_mem 175 (by decide +kernel) rfl)
theorem ln_X2_9 : LNw RX2 9 RX5 TX5 10 5 tyX5 := ⟨rfl, uTX5, tyX5_ok, (tt_mem 175 (by decide +kernel) rfl), (tt_mem 22 (by decide +kernel) rfl), (tt_mem 2 (by decide +kernel) rfl)⟩
theorem ln_X8_33 : LNw RX8 33 RX6 TX6 7 6 tyX6 := ⟨rfl, uTX6, tyX6_ok, (tt_mem 186 (by decide +kernel) rfl), (tt_mem 187 (by decide +kernel) rfl), (tt_mem 7 (by decide +kernel) rfl)⟩
theorem ln_X8_40 : LNw RX8 40 RX1 TX1 17 1 tyX1 := ⟨rfl, uTX1, tyX1_ok, (tt_mem 220 (by decide +kernel) rfl), (tt_mem 221 (by decide +kernel) rfl), (tt_mem 8 (by decide +kernel) rfl)⟩
theorem ln_X8_47 : LNw RX8 47 RX3 TX3 4 3 tyX3 := ⟨rfl, uTX3, tyX3_ok, (tt_mem 292 (by decide +kernel) rfl), (tt_mem 293 (by decide +kernel) rfl), (tt_mem 9 (by decide +kernel) rfl)⟩
theorem ln_X3_9 : LNw RX3 9 RX1 TX1 17 1 tyX1 := ⟨rfl, uTX1, tyX1_ok, (tt_mem 298 (by decide +kernel) rfl), (tt_mem 221 (by decide +kernel) rfl), (tt_mem 8 (by decide +kernel) rfl)⟩
theorem ln_L_10 : LNw RL 10 RX9 TX9 24 9 tyX9 := ⟨rfl, uTX9, tyX9_ok, (tt_mem 726 (by decide +kernel) rfl), (tt_mem 727 (by decide +kernel) rfl), (tt_mem 10 (by decide +kernel) rfl)⟩
theorem df_X0 : ∀ j, j < 6 → defaultValue (tyX0 j) = vp_V [.int 0, .null, .null, .null, .null, .null] j := fun j hj => by rcases (show j = 0 ∨ j = 1 ∨ j = 2 ∨ j = 3 ∨ j = 4 ∨ j = 5 by omega) with rfl | rfl | rfl | rfl | rfl | rfl <;> rfl
theorem df_X1 : ∀ j, j < 17 → defaultValue (tyX1 j) = vp_V [.int 0, .int 0, .int 0, .int 0, .int 0, .int 0, .int 0, .int 0, .null, .null, .null, .null, .null, .null, .null, .null, .null] j := fun j hj => by rcases (show j = 0 ∨ j = 1 ∨ j = 2 ∨ j = 3 ∨ j = 4 ∨ j = 5 ∨ j = 6 ∨ j = 7 ∨ j = 8 ∨ j = 9 ∨ j = 10 ∨ j = 11 ∨ j = 12 ∨ j = 13 ∨ j = 14 ∨ j = 15 ∨ j = 16 by omega) with rfl | rfl | rfl | rfl | rfl | rfl | rfl | rfl | rfl | rfl | rfl | rfl | rfl | rfl | rfl | rfl | rfl <;> rfl
theorem df_X2 : ∀ j, j < 2 → defaultValue (tyX2 j) = vp_V [.null, .int 0] j := fun j hj => by rcases (show j = 0 ∨ j = 1 by omega) with rfl | rfl <;> rfl
theorem df_X3 : ∀ j, j < 4 → defaultValue (tyX3 j) = vp_V [.null, .null, .int 0, .int 0] j := fun j hj => by rcases (show j = 0 ∨ j = 1 ∨ j = 2 ∨ j = 3 by omega) with rfl | rfl | rfl | rfl <;> rfl
theorem df_X4 : ∀ j, j < 5 → defaultValue (tyX4 j) = vp_V [.int 0, .null, .null, .null, .null] j := fun j hj => by rcases (show j = 0 ∨ j = 1 ∨ j = 2 ∨ j = 3 ∨ j = 4 by omega) with rfl | rfl | rfl | rfl | rfl <;> rfl
theorem df_X5 : ∀ j, j < 10 → defaultValue (tyX5 j) = vp_V [.int 0, .int 0, .int 0, .int 0, .int 0, .int 0, .int 0, .null, .null, .null] j := fun j hj => by rcases (show j = 0 ∨ j = 1 ∨ j = 2 ∨ j = 3 ∨ j = 4 ∨ j = 5 ∨ j = 6 ∨ j = 7 ∨ j = 8 ∨ j = 9 by omega) with rfl | rfl | rfl | rfl | rfl | rfl | rfl | rfl | rfl | rfl <;> rfl
theorem df_X6 : ∀ j, j < 7 → defaultValue (tyX6 j) = vp_V [.null, .int 0, .int 0, .null, .null, .null, .int 0] j := fun j hj => by rcases (show j = 0 ∨ j = 1 ∨ j = 2 ∨ j = 3 ∨ j = 4 ∨ j = 5 ∨ j = 6 by omega) with rfl | rfl | rfl | rfl | rfl | rfl | rfl <;> rfl
theorem df_X7 : ∀ j, j < 4 → defaultValue (tyX7 j) = vp_V [.int 0, .null, .null, .null] j := fun j hj => by rcases (show j = 0 ∨ j = 1 ∨ j = 2 ∨ j = 3 by omega) with rfl | rfl | rfl | rfl <;> rfl
theorem df_X8 : ∀ j, j < 9 → defaultValue (tyX8 j) = vp_V [.null, .null, .null, .int 0, .null, .null, .null, .null, .null] j := fun j hj => by rcases (show j = 0 ∨ j = 1 ∨ j = 2 ∨ j = 3 ∨ j = 4 ∨ j = 5 ∨ j = 6 ∨ j = 7 ∨ j = 8 by omega) with rfl | rfl | rfl | rfl | rfl | rfl | rfl | rfl | rfl <;> rfl
theorem df_X9 : ∀ j, j < 24 → defaultValue (tyX9 j) = vp_V [.null, .null, .int 0, .null, .int 0, .null, .null, .null, .null, .null, .int 0, .int 0, .int 0, .int 0, .int 0, .int 0, .int 0, .null, .int 0, .null, .int 0, .int 0, .int 0, .int 0] j := fun j hj => by rcases (show j = 0 ∨ j = 1 ∨ j = 2 ∨ j = 3 ∨ j = 4 ∨ j = 5 ∨ j = 6 ∨ j = 7 ∨ j = 8 ∨ j = 9 ∨ j = 10 ∨ j = 11 ∨ j = 12 ∨ j = 13 ∨ j = 14 ∨ j = 15 ∨ j = 16 ∨ j = 17 ∨ j = 18 ∨ j = 19 ∨ j = 20 ∨ j = 21 ∨ j = 22 ∨ j = 23 by omega) with rfl | rfl | rfl | rfl | rfl | rfl | rfl | rfl | rfl | rfl | rfl | rfl | rfl | rfl | rfl | rfl | rfl | rfl | rfl | rfl | rfl | rfl | rfl | rfl <;> rfl
theorem ac_int : Cond.arrayClass .int ∈ TT := (tt_mem 57 (by decide +kernel) rfl)
theorem ac_char : Cond.arrayClass .char ∈ TT := (tt_mem 219 (by decide +kernel) rfl)
theorem ac_boolean : Cond.arrayClass .boolean ∈ TT := (tt_mem 315 (by decide +kernel) rfl)
theorem ff_X4_9 : FPF RX4 9 4 1 (.array .int) := ⟨RX4, TX4, 5, tyX4, rfl, by decide, uTX4, rfl, (tt_mem 35 (by decide +kernel) rfl), tyX4_ok, nmX4, rfl, by decide +kernel, rfl⟩
theorem ff_X4_15 : FPF RX4 15 4 2 (.array .int) := ⟨RX4, TX4, 5, tyX4, rfl, by decide, uTX4, rfl, (tt_mem 38 (by decide +kernel) rfl), tyX4_ok, nmX4, rfl, by decide +kernel, rfl⟩
theorem ff_X4_18 : FPF RX4 18 4 3 (.array .int) := ⟨RX4, TX4, 5, tyX4, rfl, by decide, uTX4, rfl, (tt_mem 41 (by decide +kernel) rfl), tyX4_ok, nmX4, rfl, by decide +kernel, rfl⟩
theorem ff_X4_21 : FPF RX4 21 4 4 (.array .int) := ⟨RX4, TX4, 5, tyX4, rfl, by decide, uTX4, rfl, (tt_mem 44 (by decide +kernel) rfl), tyX4_ok, nmX4, rfl, by decide +kernel, rfl⟩
theorem ff_X0_9 : FPF RX0 9 0 1 (.array .int) := ⟨RX0, TX0, 6, tyX0, rfl, by decide, uTX0, rfl, (tt_mem 68 (by decide +kernel) rfl), tyX0_ok, nmX0, rfl, by decide +kernel, rfl⟩
theorem ff_X0_15 : FPF RX0 15 0 2 (.array .int) := ⟨RX0, TX0, 6, tyX0, rfl, by decide, uTX0, rfl, (tt_mem 70 (by decide +kernel) rfl), tyX0_ok, nmX0, rfl, by decide +kernel, rfl⟩
theorem ff_X0_18 : FPF RX0 18 0 3 (.array .int) := ⟨RX0, TX0, 6, tyX0, rfl, by decide, uTX0, rfl, (tt_mem 74 (by decide +kernel) rfl), tyX0_ok, nmX0, rfl, by decide +kernel, rfl⟩
theorem ff_X0_21 : FPF RX0 21 0 4 (.array .int) := ⟨RX0, TX0, 6, tyX0, rfl, by decide, uTX0, rfl, (tt_mem 78 (by decide +kernel) rfl), tyX0_ok, nmX0, rfl, by decide +kernel, rfl⟩
theorem ff_X0_24 : FPF RX0 24 0 5 (.array .int) := ⟨RX0, TX0, 6, tyX0, rfl, by decide, uTX0, rfl, (tt_mem 81 (by decide +kernel) rfl), tyX0_ok, nmX0, rfl, by decide +kernel, rfl⟩
theorem ff_X7_9 : FPF RX7 9 7 1 (.array .int) := ⟨RX7, TX7, 4, tyX7, rfl, by decide, uTX7, rfl, (tt_mem 105 (by decide +kernel) rfl), tyX7_ok, nmX7, rfl, by decide +kernel, rfl⟩
theorem ff_X7_15 : FPF RX7 15 7 2 (.array .int) := ⟨RX7, TX7, 4, tyX7, rfl, by decide, uTX7, rfl, (tt_mem 107 (by decide +kernel) rfl), tyX7_ok, nmX7, rfl, by decide +kernel, rfl⟩
theorem ff_X7_18 : FPF RX7 18 7 3 (.array .int) := ⟨RX7, TX7, 4, tyX7, rfl, by decide, uTX7, rfl, (tt_mem 109 (by decide +kernel) rfl), tyX7_ok, nmX7, rfl, by decide +kernel, rfl⟩
theorem ff_X5_24 : FPF RX5 24 5 7 (.object "BoilerBook$Recipes") := ⟨RX5, TX5, 10, tyX5, rfl, by decide, uTX5, rfl, (tt_mem 139 (by decide +kernel) rfl), tyX5_ok, nmX5, rfl, by decide +kernel, rfl⟩
theorem ff_X5_31 : FPF RX5 31 5 8 (.object "BoilerBook$Bookings") := ⟨RX5, TX5, 10, tyX5, rfl, by decide, uTX5, rfl, (tt_mem 143 (by decide +kernel) rfl), tyX5_ok, nmX5, rfl, by decide +kernel, rfl⟩
theorem ff_X5_38 : FPF RX5 38 5 9 (.object "BoilerBook$Wishes") := ⟨RX5, TX5, 10, tyX5, rfl, by decide, uTX5, rfl, (tt_mem 146 (by decide +kernel) rfl), tyX5_ok, nmX5, rfl, by decide +kernel, rfl⟩
theorem ff_X2_11 : FPF RX2 11 2 0 (.array (.object "BoilerBook$State")) := ⟨RX2, TX2, 2, tyX2, rfl, by decide, uTX2, rfl, (tt_mem 178 (by decide +kernel) rfl), tyX2_ok, nmX2, rfl, by decide +kernel, rfl⟩
theorem ff_X6_9 : FPF RX6 9 6 0 (.array .char) := ⟨RX6, TX6, 7, tyX6, rfl, by decide, uTX6, rfl, (tt_mem 192 (by decide +kernel) rfl), tyX6_ok, nmX6, rfl, by decide +kernel, rfl⟩
theorem ff_X6_15 : FPF RX6 15 6 3 (.array .int) := ⟨RX6, TX6, 7, tyX6, rfl, by decide, uTX6, rfl, (tt_mem 197 (by decide +kernel) rfl), tyX6_ok, nmX6, rfl, by decide +kernel, rfl⟩
theorem ff_X6_19 : FPF RX6 19 6 4 (.array .int) := ⟨RX6, TX6, 7, tyX6, rfl, by decide, uTX6, rfl, (tt_mem 199 (by decide +kernel) rfl), tyX6_ok, nmX6, rfl, by decide +kernel, rfl⟩
theorem ff_X6_22 : FPF RX6 22 6 5 (.array .int) := ⟨RX6, TX6, 7, tyX6, rfl, by decide, uTX6, rfl, (tt_mem 201 (by decide +kernel) rfl), tyX6_ok, nmX6, rfl, by decide +kernel, rfl⟩
theorem ff_X1_11 : FPF RX1 11 1 8 (.array .int) := ⟨RX1, TX1, 17, tyX1, rfl, by decide, uTX1, rfl, (tt_mem 240 (by decide +kernel) rfl), tyX1_ok, nmX1, rfl, by decide +kernel, rfl⟩
theorem ff_X1_15 : FPF RX1 15 1 9 (.array .int) := ⟨RX1, TX1, 17, tyX1, rfl, by decide, uTX1, rfl, (tt_mem 243 (by decide +kernel) rfl), tyX1_ok, nmX1, rfl, by decide +kernel, rfl⟩
theorem ff_X1_18 : FPF RX1 18 1 10 (.array .int) := ⟨RX1, TX1, 17, tyX1, rfl, by decide, uTX1, rfl, (tt_mem 246 (by decide +kernel) rfl), tyX1_ok, nmX1, rfl, by decide +kernel, rfl⟩
theorem ff_X1_21 : FPF RX1 21 1 11 (.array .int) := ⟨RX1, TX1, 17, tyX1, rfl, by decide, uTX1, rfl, (tt_mem 248 (by decide +kernel) rfl), tyX1_ok, nmX1, rfl, by decide +kernel, rfl⟩
theorem ff_X1_24 : FPF RX1 24 1 12 (.array .int) := ⟨RX1, TX1, 17, tyX1, rfl, by decide, uTX1, rfl, (tt_mem 251 (by decide +kernel) rfl), tyX1_ok, nmX1, rfl, by decide +kernel, rfl⟩
theorem ff_X1_27 : FPF RX1 27 1 13 (.array .int) := ⟨RX1, TX1, 17, tyX1, rfl, by decide, uTX1, rfl, (tt_mem 253 (by decide +kernel) rfl), tyX1_ok, nmX1, rfl, by decide +kernel, rfl⟩
theorem ff_X1_30 : FPF RX1 30 1 14 (.array .int) := ⟨RX1, TX1, 17, tyX1, rfl, by decide, uTX1, rfl, (tt_mem 254 (by decide +kernel) rfl), tyX1_ok, nmX1, rfl, by decide +kernel, rfl⟩
theorem ff_X1_33 : FPF RX1 33 1 15 (.array .int) := ⟨RX1, TX1, 17, tyX1, rfl, by decide, uTX1, rfl, (tt_mem 255 (by decide +kernel) rfl), tyX1_ok, nmX1, rfl, by decide +kernel, rfl⟩
theorem ff_X1_36 : FPF RX1 36 1 16 (.array .int) := ⟨RX1, TX1, 17, tyX1, rfl, by decide, uTX1, rfl, (tt_mem 256 (by decide +kernel) rfl), tyX1_ok, nmX1, rfl, by decide +kernel, rfl⟩
theorem ff_X3_12 : FPF RX3 12 3 0 (.object "BoilerBook$Course") := ⟨RX3, TX3, 4, tyX3, rfl, by decide, uTX3, rfl, (tt_mem 300 (by decide +kernel) rfl), tyX3_ok, nmX3, rfl, by decide +kernel, rfl⟩
theorem ff_X3_18 : FPF RX3 18 3 1 (.array .boolean) := ⟨RX3, TX3, 4, tyX3, rfl, by decide, uTX3, rfl, (tt_mem 301 (by decide +kernel) rfl), tyX3_ok, nmX3, rfl, by decide +kernel, rfl⟩
theorem ff_X8_12 : FPF RX8 12 8 0 (.object "BoilerBook$State") := ⟨RX8, TX8, 9, tyX8, rfl, by decide, uTX8, rfl, (tt_mem 316 (by decide +kernel) rfl), tyX8_ok, nmX8, rfl, by decide +kernel, rfl⟩
theorem ff_X8_16 : FPF RX8 16 8 1 (.object "BoilerBook$State") := ⟨RX8, TX8, 9, tyX8, rfl, by decide, uTX8, rfl, (tt_mem 317 (by decide +kernel) rfl), tyX8_ok, nmX8, rfl, by decide +kernel, rfl⟩
theorem ff_X8_19 : FPF RX8 19 8 2 (.object "BoilerBook$State") := ⟨RX8, TX8, 9, tyX8, rfl, by decide, uTX8, rfl, (tt_mem 318 (by decide +kernel) rfl), tyX8_ok, nmX8, rfl, by decide +kernel, rfl⟩
theorem ff_X8_29 : FPF RX8 29 8 4 (.object "BoilerBook$History") := ⟨RX8, TX8, 9, tyX8, rfl, by decide, uTX8, rfl, (tt_mem 320 (by decide +kernel) rfl), tyX8_ok, nmX8, rfl, by decide +kernel, rfl⟩
theorem ff_X8_36 : FPF RX8 36 8 5 (.object "BoilerBook$Text") := ⟨RX8, TX8, 9, tyX8, rfl, by decide, uTX8, rfl, (tt_mem 321 (by decide +kernel) rfl), tyX8_ok, nmX8, rfl, by decide +kernel, rfl⟩
theorem ff_X8_43 : FPF RX8 43 8 6 (.object "BoilerBook$Course") := ⟨RX8, TX8, 9, tyX8, rfl, by decide, uTX8, rfl, (tt_mem 322 (by decide +kernel) rfl), tyX8_ok, nmX8, rfl, by decide +kernel, rfl⟩
theorem ff_X8_50 : FPF RX8 50 8 7 (.object "BoilerBook$Judge") := ⟨RX8, TX8, 9, tyX8, rfl, by decide, uTX8, rfl, (tt_mem 323 (by decide +kernel) rfl), tyX8_ok, nmX8, rfl, by decide +kernel, rfl⟩
theorem ff_X8_54 : FPF RX8 54 8 8 (.array .boolean) := ⟨RX8, TX8, 9, tyX8, rfl, by decide, uTX8, rfl, (tt_mem 324 (by decide +kernel) rfl), tyX8_ok, nmX8, rfl, by decide +kernel, rfl⟩
theorem ff_X9_7 : FPF RX9 7 9 0 (.array .int) := ⟨RX9, TX9, 24, tyX9, rfl, by decide, uTX9, rfl, (tt_mem 732 (by decide +kernel) rfl), tyX9_ok, nmX9, rfl, by decide +kernel, rfl⟩
theorem ff_X9_13 : FPF RX9 13 9 1 (.array .int) := ⟨RX9, TX9, 24, tyX9, rfl, by decide, uTX9, rfl, (tt_mem 733 (by decide +kernel) rfl), tyX9_ok, nmX9, rfl, by decide +kernel, rfl⟩
theorem ff_X9_16 : FPF RX9 16 9 3 (.array .int) := ⟨RX9, TX9, 24, tyX9, rfl, by decide, uTX9, rfl, (tt_mem 735 (by decide +kernel) rfl), tyX9_ok, nmX9, rfl, by decide +kernel, rfl⟩
theorem ff_X9_19 : FPF RX9 19 9 5 (.array .int) := ⟨RX9, TX9, 24, tyX9, rfl, by decide, uTX9, rfl, (tt_mem 737 (by decide +kernel) rfl), tyX9_ok, nmX9, rfl, by decide +kernel, rfl⟩
theorem ff_X9_22 : FPF RX9 22 9 6 (.array .int) := ⟨RX9, TX9, 24, tyX9, rfl, by decide, uTX9, rfl, (tt_mem 738 (by decide +kernel) rfl), tyX9_ok, nmX9, rfl, by decide +kernel, rfl⟩
theorem ff_X9_25 : FPF RX9 25 9 7 (.array .int) := ⟨RX9, TX9, 24, tyX9, rfl, by decide, uTX9, rfl, (tt_mem 739 (by decide +kernel) rfl), tyX9_ok, nmX9, rfl, by decide +kernel, rfl⟩
theorem ff_X9_28 : FPF RX9 28 9 8 (.array .int) := ⟨RX9, TX9, 24, tyX9, rfl, by decide, uTX9, rfl, (tt_mem 740 (by decide +kernel) rfl), tyX9_ok, nmX9, rfl, by decide +kernel, rfl⟩
theorem ff_X9_31 : FPF RX9 31 9 9 (.array .int) := ⟨RX9, TX9, 24, tyX9, rfl, by decide, uTX9, rfl, (tt_mem 741 (by decide +kernel) rfl), tyX9_ok, nmX9, rfl, by decide +kernel, rfl⟩
theorem ff_X9_44 : FPF RX9 44 9 17 (.array .boolean) := ⟨RX9, TX9, 24, tyX9, rfl, by decide, uTX9, rfl, (tt_mem 749 (by decide +kernel) rfl), tyX9_ok, nmX9, rfl, by decide +kernel, rfl⟩
theorem ff_X9_48 : FPF RX9 48 9 19 (.array .char) := ⟨RX9, TX9, 24, tyX9, rfl, by decide, uTX9, rfl, (tt_mem 751 (by decide +kernel) rfl), tyX9_ok, nmX9, rfl, by decide +kernel, rfl⟩
theorem dX4_init_0 : decode cX4_init 0 = .ok (.aload_n 0, 1) := by decide +kernel
theorem dX4_init_1 : decode cX4_init 1 = .ok (.invokespecial 3, 3) := by decide +kernel
theorem dX4_init_4 : decode cX4_init 4 = .ok (.aload_n 0, 1) := by decide +kernel
theorem dX4_init_5 : decode cX4_init 5 = .ok (.bipush 8, 2) := by decide +kernel
theorem dX4_init_7 : decode cX4_init 7 = .ok (.newarray .int, 2) := by decide +kernel
theorem dX4_init_9 : decode cX4_init 9 = .ok (.putfield 9, 3) := by decide +kernel
theorem dX4_init_12 : decode cX4_init 12 = .ok (.aload_n 0, 1) := by decide +kernel
theorem dX4_init_13 : decode cX4_init 13 = .ok (.bipush 8, 2) := by decide +kernel
theorem dX4_init_15 : decode cX4_init 15 = .ok (.newarray .int, 2) := by decide +kernel
theorem dX4_init_17 : decode cX4_init 17 = .ok (.putfield 15, 3) := by decide +kernel
theorem dX4_init_20 : decode cX4_init 20 = .ok (.aload_n 0, 1) := by decide +kernel
theorem dX4_init_21 : decode cX4_init 21 = .ok (.bipush 8, 2) := by decide +kernel
theorem dX4_init_23 : decode cX4_init 23 = .ok (.newarray .int, 2) := by decide +kernel
theorem dX4_init_25 : decode cX4_init 25 = .ok (.putfield 18, 3) := by decide +kernel
theorem dX4_init_28 : decode cX4_init 28 = .ok (.aload_n 0, 1) := by decide +kernel
theorem dX4_init_29 : decode cX4_init 29 = .ok (.bipush 8, 2) := by decide +kernel
theorem dX4_init_31 : decode cX4_init 31 = .ok (.newarray .int, 2) := by decide +kernel
theorem dX4_init_33 : decode cX4_init 33 = .ok (.putfield 21, 3) := by decide +kernel
theorem dX4_init_36 : decode cX4_init 36 = .ok (.return_, 1) := by decide +kernel
def wX4 (y : Cy) (b : Nat → Nat) : va_W := [((b 0), .inr (4, [.int 0, .ref (b 1), .ref (b 2), .ref (b 3), .ref (b 4)])), ((b 1), .inl (y.2.2 0, (8, .inl (fun _ => 0)))), ((b 2), .inl (y.2.2 0, (8, .inl (fun _ => 0)))), ((b 3), .inl (y.2.2 0, (8, .inl (fun _ => 0)))), ((b 4), .inl (y.2.2 0, (8, .inl (fun _ => 0))))]
abbrev rX4_init : Room := { frames := 1, cells := 4, slots := 32, locals := 12 }
set_option maxRecDepth 20000 in
theorem i_X4 (l : Launch) (y : Cy) : CI l y yX4_init cX4_init 1 rX4_init 4 [.int 0, .null, .null, .null, .null] (wX4 y) := by
  refine CI_of (by decide) (by decide) (fun x h0 sz hxl h hnm hlk hret hQ hAe => ?_)
  refine GC_aload_n (pc := 0) h dX4_init_0 rfl 0 rfl ?_
  refine GC_obj (pc := 1) h ol_X4_3 oi_inst oi_code dX4_init_1 (Nat.le_of_ble_eq_true rfl) (Nat.le_of_ble_eq_true rfl) ?_
  refine GC_aload_n (pc := 4) h dX4_init_4 rfl 0 rfl ?_
  refine GC_bipush (pc := 5) (v := (8)) h dX4_init_5 (by decide) ?_
  refine GC_newa (pc := 7) (at_ := .int) (ty := .int) h 0 rfl ac_int rfl (fun _ _ z => z) (N' := 8) (fun _ => rfl) (by decide) (by decide) (Nat.le_of_ble_eq_true rfl) (Nat.le_of_ble_eq_true rfl) (Nat.le_of_ble_eq_true rfl) dX4_init_7 (fun q1 => ?_)
  refine GC_putF (pc := 9) h (hnm.resolve_right (fun e => e rfl)) 0 [(h0, .inr (4, [.int 0, .ref q1, .null, .null, .null])), (q1, .inl (y.2.2 0, (8, .inl (fun _ => 0))))] ff_X4_9 rfl rfl rfl (Nat.le_of_ble_eq_true rfl) rfl dX4_init_9 ?_
  refine GC_aload_n (pc := 12) h dX4_init_12 rfl 0 rfl ?_
  refine GC_bipush (pc := 13) (v := (8)) h dX4_init_13 (by decide) ?_
  refine GC_newa (pc := 15) (at_ := .int) (ty := .int) h 0 rfl ac_int rfl (fun _ _ z => z) (N' := 8) (fun _ => rfl) (by decide) (by decide) (Nat.le_of_ble_eq_true rfl) (Nat.le_of_ble_eq_true rfl) (Nat.le_of_ble_eq_true rfl) dX4_init_15 (fun q2 => ?_)
  refine GC_putF (pc := 17) h (hnm.resolve_right (fun e => e rfl)) 0 [(h0, .inr (4, [.int 0, .ref q1, .ref q2, .null, .null])), (q1, .inl (y.2.2 0, (8, .inl (fun _ => 0)))), (q2, .inl (y.2.2 0, (8, .inl (fun _ => 0))))] ff_X4_15 rfl rfl rfl (Nat.le_of_ble_eq_true rfl) rfl dX4_init_17 ?_
  refine GC_aload_n (pc := 20) h dX4_init_20 rfl 0 rfl ?_
  refine GC_bipush (pc := 21) (v := (8)) h dX4_init_21 (by decide) ?_
  refine GC_newa (pc := 23) (at_ := .int) (ty := .int) h 0 rfl ac_int rfl (fun _ _ z => z) (N' := 8) (fun _ => rfl) (by decide) (by decide) (Nat.le_of_ble_eq_true rfl) (Nat.le_of_ble_eq_true rfl) (Nat.le_of_ble_eq_true rfl) dX4_init_23 (fun q3 => ?_)
  refine GC_putF (pc := 25) h (hnm.resolve_right (fun e => e rfl)) 0 [(h0, .inr (4, [.int 0, .ref q1, .ref q2, .ref q3, .null])), (q1, .inl (y.2.2 0, (8, .inl (fun _ => 0)))), (q2, .inl (y.2.2 0, (8, .inl (fun _ => 0)))), (q3, .inl (y.2.2 0, (8, .inl (fun _ => 0))))] ff_X4_18 rfl rfl rfl (Nat.le_of_ble_eq_true rfl) rfl dX4_init_25 ?_
  refine GC_aload_n (pc := 28) h dX4_init_28 rfl 0 rfl ?_
  refine GC_bipush (pc := 29) (v := (8)) h dX4_init_29 (by decide) ?_
  refine GC_newa (pc := 31) (at_ := .int) (ty := .int) h 0 rfl ac_int rfl (fun _ _ z => z) (N' := 8) (fun _ => rfl) (by decide) (by decide) (Nat.le_of_ble_eq_true rfl) (Nat.le_of_ble_eq_true rfl) (Nat.le_of_ble_eq_true rfl) dX4_init_31 (fun q4 => ?_)
  refine GC_putF (pc := 33) h (hnm.resolve_right (fun e => e rfl)) 0 [(h0, .inr (4, [.int 0, .ref q1, .ref q2, .ref q3, .ref q4])), (q1, .inl (y.2.2 0, (8, .inl (fun _ => 0)))), (q2, .inl (y.2.2 0, (8, .inl (fun _ => 0)))), (q3, .inl (y.2.2 0, (8, .inl (fun _ => 0)))), (q4, .inl (y.2.2 0, (8, .inl (fun _ => 0))))] ff_X4_21 rfl rfl rfl (Nat.le_of_ble_eq_true rfl) rfl dX4_init_33 ?_
  exact GC_ret (pc := 36) (Wr := wX4 y) h hlk hret hQ hAe (fun i => if i < 1 then h0 else if i < 2 then q1 else if i < 3 then q2 else if i < 4 then q3 else q4) rfl rfl rfl rfl dX4_init_36
theorem dX0_init_0 : decode cX0_init 0 = .ok (.aload_n 0, 1) := by decide +kernel
theorem dX0_init_1 : decode cX0_init 1 = .ok (.invokespecial 3, 3) := by decide +kernel
theorem dX0_init_4 : decode cX0_init 4 = .ok (.aload_n 0, 1) := by decide +kernel
theorem dX0_init_5 : decode cX0_init 5 = .ok (.bipush 60, 2) := by decide +kernel
theorem dX0_init_7 : decode cX0_init 7 = .ok (.newarray .int, 2) := by decide +kernel
theorem dX0_init_9 : decode cX0_init 9 = .ok (.putfield 9, 3) := by decide +kernel
theorem dX0_init_12 : decode cX0_init 12 = .ok (.aload_n 0, 1) := by decide +kernel
theorem dX0_init_13 : decode cX0_init 13 = .ok (.bipush 60, 2) := by decide +kernel
theorem dX0_init_15 : decode cX0_init 15 = .ok (.newarray .int, 2) := by decide +kernel
theorem dX0_init_17 : decode cX0_init 17 = .ok (.putfield 15, 3) := by decide +kernel
theorem dX0_init_20 : decode cX0_init 20 = .ok (.aload_n 0, 1) := by decide +kernel
theorem dX0_init_21 : decode cX0_init 21 = .ok (.bipush 60, 2) := by decide +kernel
theorem dX0_init_23 : decode cX0_init 23 = .ok (.newarray .int, 2) := by decide +kernel
theorem dX0_init_25 : decode cX0_init 25 = .ok (.putfield 18, 3) := by decide +kernel
theorem dX0_init_28 : decode cX0_init 28 = .ok (.aload_n 0, 1) := by decide +kernel
theorem dX0_init_29 : decode cX0_init 29 = .ok (.bipush 60, 2) := by decide +kernel
theorem dX0_init_31 : decode cX0_init 31 = .ok (.newarray .int, 2) := by decide +kernel
theorem dX0_init_33 : decode cX0_init 33 = .ok (.putfield 21, 3) := by decide +kernel
theorem dX0_init_36 : decode cX0_init 36 = .ok (.aload_n 0, 1) := by decide +kernel
theorem dX0_init_37 : decode cX0_init 37 = .ok (.bipush 60, 2) := by decide +kernel
theorem dX0_init_39 : decode cX0_init 39 = .ok (.newarray .int, 2) := by decide +kernel
theorem dX0_init_41 : decode cX0_init 41 = .ok (.putfield 24, 3) := by decide +kernel
theorem dX0_init_44 : decode cX0_init 44 = .ok (.return_, 1) := by decide +kernel
def wX0 (y : Cy) (b : Nat → Nat) : va_W := [((b 0), .inr (0, [.int 0, .ref (b 1), .ref (b 2), .ref (b 3), .ref (b 4), .ref (b 5)])), ((b 1), .inl (y.2.2 0, (60, .inl (fun _ => 0)))), ((b 2), .inl (y.2.2 0, (60, .inl (fun _ => 0)))), ((b 3), .inl (y.2.2 0, (60, .inl (fun _ => 0)))), ((b 4), .inl (y.2.2 0, (60, .inl (fun _ => 0)))), ((b 5), .inl (y.2.2 0, (60, .inl (fun _ => 0))))]
abbrev rX0_init : Room := { frames := 1, cells := 5, slots := 300, locals := 12 }
set_option maxRecDepth 20000 in
theorem i_X0 (l : Launch) (y : Cy) : CI l y yX0_init cX0_init 1 rX0_init 0 [.int 0, .null, .null, .null, .null, .null] (wX0 y) := by
  refine CI_of (by decide) (by decide) (fun x h0 sz hxl h hnm hlk hret hQ hAe => ?_)
  refine GC_aload_n (pc := 0) h dX0_init_0 rfl 0 rfl ?_
  refine GC_obj (pc := 1) h ol_X0_3 oi_inst oi_code dX0_init_1 (Nat.le_of_ble_eq_true rfl) (Nat.le_of_ble_eq_true rfl) ?_
  refine GC_aload_n (pc := 4) h dX0_init_4 rfl 0 rfl ?_
  refine GC_bipush (pc := 5) (v := (60)) h dX0_init_5 (by decide) ?_
  refine GC_newa (pc := 7) (at_ := .int) (ty := .int) h 0 rfl ac_int rfl (fun _ _ z => z) (N' := 60) (fun _ => rfl) (by decide) (by decide) (Nat.le_of_ble_eq_true rfl) (Nat.le_of_ble_eq_true rfl) (Nat.le_of_ble_eq_true rfl) dX0_init_7 (fun q1 => ?_)
  refine GC_putF (pc := 9) h (hnm.resolve_right (fun e => e rfl)) 0 [(h0, .inr (0, [.int 0, .ref q1, .null, .null, .null, .null])), (q1, .inl (y.2.2 0, (60, .inl (fun _ => 0))))] ff_X0_9 rfl rfl rfl (Nat.le_of_ble_eq_true rfl) rfl dX0_init_9 ?_
  refine GC_aload_n (pc := 12) h dX0_init_12 rfl 0 rfl ?_
  refine GC_bipush (pc := 13) (v := (60)) h dX0_init_13 (by decide) ?_
  refine GC_newa (pc := 15) (at_ := .int) (ty := .int) h 0 rfl ac_int rfl (fun _ _ z => z) (N' := 60) (fun _ => rfl) (by decide) (by decide) (Nat.le_of_ble_eq_true rfl) (Nat.le_of_ble_eq_true rfl) (Nat.le_of_ble_eq_true rfl) dX0_init_15 (fun q2 => ?_)
  refine GC_putF (pc := 17) h (hnm.resolve_right (fun e => e rfl)) 0 [(h0, .inr (0, [.int 0, .ref q1, .ref q2, .null, .null, .null])), (q1, .inl (y.2.2 0, (60, .inl (fun _ => 0)))), (q2, .inl (y.2.2 0, (60, .inl (fun _ => 0))))] ff_X0_15 rfl rfl rfl (Nat.le_of_ble_eq_true rfl) rfl dX0_init_17 ?_
  refine GC_aload_n (pc := 20) h dX0_init_20 rfl 0 rfl ?_
  refine GC_bipush (pc := 21) (v := (60)) h dX0_init_21 (by decide) ?_
  refine GC_newa (pc := 23) (at_ := .int) (ty := .int) h 0 rfl ac_int rfl (fun _ _ z => z) (N' := 60) (fun _ => rfl) (by decide) (by decide) (Nat.le_of_ble_eq_true rfl) (Nat.le_of_ble_eq_true rfl) (Nat.le_of_ble_eq_true rfl) dX0_init_23 (fun q3 => ?_)
  refine GC_putF (pc := 25) h (hnm.resolve_right (fun e => e rfl)) 0 [(h0, .inr (0, [.int 0, .ref q1, .ref q2, .ref q3, .null, .null])), (q1, .inl (y.2.2 0, (60, .inl (fun _ => 0)))), (q2, .inl (y.2.2 0, (60, .inl (fun _ => 0)))), (q3, .inl (y.2.2 0, (60, .inl (fun _ => 0))))] ff_X0_18 rfl rfl rfl (Nat.le_of_ble_eq_true rfl) rfl dX0_init_25 ?_
  refine GC_aload_n (pc := 28) h dX0_init_28 rfl 0 rfl ?_
  refine GC_bipush (pc := 29) (v := (60)) h dX0_init_29 (by decide) ?_
  refine GC_newa (pc := 31) (at_ := .int) (ty := .int) h 0 rfl ac_int rfl (fun _ _ z => z) (N' := 60) (fun _ => rfl) (by decide) (by decide) (Nat.le_of_ble_eq_true rfl) (Nat.le_of_ble_eq_true rfl) (Nat.le_of_ble_eq_true rfl) dX0_init_31 (fun q4 => ?_)
  refine GC_putF (pc := 33) h (hnm.resolve_right (fun e => e rfl)) 0 [(h0, .inr (0, [.int 0, .ref q1, .ref q2, .ref q3, .ref q4, .null])), (q1, .inl (y.2.2 0, (60, .inl (fun _ => 0)))), (q2, .inl (y.2.2 0, (60, .inl (fun _ => 0)))), (q3, .inl (y.2.2 0, (60, .inl (fun _ => 0)))), (q4, .inl (y.2.2 0, (60, .inl (fun _ => 0))))] ff_X0_21 rfl rfl rfl (Nat.le_of_ble_eq_true rfl) rfl dX0_init_33 ?_
  refine GC_aload_n (pc := 36) h dX0_init_36 rfl 0 rfl ?_
  refine GC_bipush (pc := 37) (v := (60)) h dX0_init_37 (by decide) ?_
  refine GC_newa (pc := 39) (at_ := .int) (ty := .int) h 0 rfl ac_int rfl (fun _ _ z => z) (N' := 60) (fun _ => rfl) (by decide) (by decide) (Nat.le_of_ble_eq_true rfl) (Nat.le_of_ble_eq_true rfl) (Nat.le_of_ble_eq_true rfl) dX0_init_39 (fun q5 => ?_)
  refine GC_putF (pc := 41) h (hnm.resolve_right (fun e => e rfl)) 0 [(h0, .inr (0, [.int 0, .ref q1, .ref q2, .ref q3, .ref q4, .ref q5])), (q1, .inl (y.2.2 0, (60, .inl (fun _ => 0)))), (q2, .inl (y.2.2 0, (60, .inl (fun _ => 0)))), (q3, .inl (y.2.2 0, (60, .inl (fun _ => 0)))), (q4, .inl (y.2.2 0, (60, .inl (fun _ => 0)))), (q5, .inl (y.2.2 0, (60, .inl (fun _ => 0))))] ff_X0_24 rfl rfl rfl (Nat.le_of_ble_eq_true rfl) rfl dX0_init_41 ?_
  exact GC_ret (pc := 44) (Wr := wX0 y) h hlk hret hQ hAe (fun i => if i < 1 then h0 else if i < 2 then q1 else if i < 3 then q2 else if i < 4 then q3 else if i < 5 then q4 else q5) rfl rfl rfl rfl dX0_init_44
theorem dX7_init_0 : decode cX7_init 0 = .ok (.aload_n 0, 1) := by decide +kernel
theorem dX7_init_1 : decode cX7_init 1 = .ok (.invokespecial 3, 3) := by decide +kernel
theorem dX7_init_4 : decode cX7_init 4 = .ok (.aload_n 0, 1) := by decide +kernel
theorem dX7_init_5 : decode cX7_init 5 = .ok (.bipush 8, 2) := by decide +kernel
theorem dX7_init_7 : decode cX7_init 7 = .ok (.newarray .int, 2) := by decide +kernel
theorem dX7_init_9 : decode cX7_init 9 = .ok (.putfield 9, 3) := by decide +kernel
theorem dX7_init_12 : decode cX7_init 12 = .ok (.aload_n 0, 1) := by decide +kernel
theorem dX7_init_13 : decode cX7_init 13 = .ok (.bipush 8, 2) := by decide +kernel
theorem dX7_init_15 : decode cX7_init 15 = .ok (.newarray .int, 2) := by decide +kernel
theorem dX7_init_17 : decode cX7_init 17 = .ok (.putfield 15, 3) := by decide +kernel
theorem dX7_init_20 : decode cX7_init 20 = .ok (.aload_n 0, 1) := by decide +kernel
theorem dX7_init_21 : decode cX7_init 21 = .ok (.bipush 8, 2) := by decide +kernel
theorem dX7_init_23 : decode cX7_init 23 = .ok (.newarray .int, 2) := by decide +kernel
theorem dX7_init_25 : decode cX7_init 25 = .ok (.putfield 18, 3) := by decide +kernel
theorem dX7_init_28 : decode cX7_init 28 = .ok (.return_, 1) := by decide +kernel
def wX7 (y : Cy) (b : Nat → Nat) : va_W := [((b 0), .inr (7, [.int 0, .ref (b 1), .ref (b 2), .ref (b 3)])), ((b 1), .inl (y.2.2 0, (8, .inl (fun _ => 0)))), ((b 2), .inl (y.2.2 0, (8, .inl (fun _ => 0)))), ((b 3), .inl (y.2.2 0, (8, .inl (fun _ => 0))))]
abbrev rX7_init : Room := { frames := 1, cells := 3, slots := 24, locals := 12 }
set_option maxRecDepth 20000 in
theorem i_X7 (l : Launch) (y : Cy) : CI l y yX7_init cX7_init 1 rX7_init 7 [.int 0, .null, .null, .null] (wX7 y) := by
  refine CI_of (by decide) (by decide) (fun x h0 sz hxl h hnm hlk hret hQ hAe => ?_)
  refine GC_aload_n (pc := 0) h dX7_init_0 rfl 0 rfl ?_
  refine GC_obj (pc := 1) h ol_X7_3 oi_inst oi_code dX7_init_1 (Nat.le_of_ble_eq_true rfl) (Nat.le_of_ble_eq_true rfl) ?_
  refine GC_aload_n (pc := 4) h dX7_init_4 rfl 0 rfl ?_
  refine GC_bipush (pc := 5) (v := (8)) h dX7_init_5 (by decide) ?_
  refine GC_newa (pc := 7) (at_ := .int) (ty := .int) h 0 rfl ac_int rfl (fun _ _ z => z) (N' := 8) (fun _ => rfl) (by decide) (by decide) (Nat.le_of_ble_eq_true rfl) (Nat.le_of_ble_eq_true rfl) (Nat.le_of_ble_eq_true rfl) dX7_init_7 (fun q1 => ?_)
  refine GC_putF (pc := 9) h (hnm.resolve_right (fun e => e rfl)) 0 [(h0, .inr (7, [.int 0, .ref q1, .null, .null])), (q1, .inl (y.2.2 0, (8, .inl (fun _ => 0))))] ff_X7_9 rfl rfl rfl (Nat.le_of_ble_eq_true rfl) rfl dX7_init_9 ?_
  refine GC_aload_n (pc := 12) h dX7_init_12 rfl 0 rfl ?_
  refine GC_bipush (pc := 13) (v := (8)) h dX7_init_13 (by decide) ?_
  refine GC_newa (pc := 15) (at_ := .int) (ty := .int) h 0 rfl ac_int rfl (fun _ _ z => z) (N' := 8) (fun _ => rfl) (by decide) (by decide) (Nat.le_of_ble_eq_true rfl) (Nat.le_of_ble_eq_true rfl) (Nat.le_of_ble_eq_true rfl) dX7_init_15 (fun q2 => ?_)
  refine GC_putF (pc := 17) h (hnm.resolve_right (fun e => e rfl)) 0 [(h0, .inr (7, [.int 0, .ref q1, .ref q2, .null])), (q1, .inl (y.2.2 0, (8, .inl (fun _ => 0)))), (q2, .inl (y.2.2 0, (8, .inl (fun _ => 0))))] ff_X7_15 rfl rfl rfl (Nat.le_of_ble_eq_true rfl) rfl dX7_init_17 ?_
  refine GC_aload_n (pc := 20) h dX7_init_20 rfl 0 rfl ?_
  refine GC_bipush (pc := 21) (v := (8)) h dX7_init_21 (by decide) ?_
  refine GC_newa (pc := 23) (at_ := .int) (ty := .int) h 0 rfl ac_int rfl (fun _ _ z => z) (N' := 8) (fun _ => rfl) (by decide) (by decide) (Nat.le_of_ble_eq_true rfl) (Nat.le_of_ble_eq_true rfl) (Nat.le_of_ble_eq_true rfl) dX7_init_23 (fun q3 => ?_)
  refine GC_putF (pc := 25) h (hnm.resolve_right (fun e => e rfl)) 0 [(h0, .inr (7, [.int 0, .ref q1, .ref q2, .ref q3])), (q1, .inl (y.2.2 0, (8, .inl (fun _ => 0)))), (q2, .inl (y.2.2 0, (8, .inl (fun _ => 0)))), (q3, .inl (y.2.2 0, (8, .inl (fun _ => 0))))] ff_X7_18 rfl rfl rfl (Nat.le_of_ble_eq_true rfl) rfl dX7_init_25 ?_
  exact GC_ret (pc := 28) (Wr := wX7 y) h hlk hret hQ hAe (fun i => if i < 1 then h0 else if i < 2 then q1 else if i < 3 then q2 else q3) rfl rfl rfl rfl dX7_init_28
theorem dX5_init_0 : decode cX5_init 0 = .ok (.aload_n 0, 1) := by decide +kernel
theorem dX5_init_1 : decode cX5_init 1 = .ok (.invokespecial 3, 3) := by decide +kernel
theorem dX5_init_4 : decode cX5_init 4 = .ok (.aload_n 0, 1) := by decide +kernel
theorem dX5_init_5 : decode cX5_init 5 = .ok (.sipush 900, 3) := by decide +kernel
theorem dX5_init_8 : decode cX5_init 8 = .ok (.putfield 9, 3) := by decide +kernel
theorem dX5_init_11 : decode cX5_init 11 = .ok (.aload_n 0, 1) := by decide +kernel
theorem dX5_init_12 : decode cX5_init 12 = .ok (.sipush 1500, 3) := by decide +kernel
theorem dX5_init_15 : decode cX5_init 15 = .ok (.putfield 15, 3) := by decide +kernel
theorem dX5_init_18 : decode cX5_init 18 = .ok (.aload_n 0, 1) := by decide +kernel
theorem dX5_init_19 : decode cX5_init 19 = .ok (.bipush 20, 2) := by decide +kernel
theorem dX5_init_21 : decode cX5_init 21 = .ok (.putfield 18, 3) := by decide +kernel
theorem dX5_init_24 : decode cX5_init 24 = .ok (.aload_n 0, 1) := by decide +kernel
theorem dX5_init_25 : decode cX5_init 25 = .ok (.new 21, 3) := by decide +kernel
theorem dX5_init_28 : decode cX5_init 28 = .ok (.dup, 1) := by decide +kernel
theorem dX5_init_29 : decode cX5_init 29 = .ok (.invokespecial 23, 3) := by decide +kernel
theorem dX5_init_32 : decode cX5_init 32 = .ok (.putfield 24, 3) := by decide +kernel
theorem dX5_init_35 : decode cX5_init 35 = .ok (.aload_n 0, 1) := by decide +kernel
theorem dX5_init_36 : decode cX5_init 36 = .ok (.new 28, 3) := by decide +kernel
theorem dX5_init_39 : decode cX5_init 39 = .ok (.dup, 1) := by decide +kernel
theorem dX5_init_40 : decode cX5_init 40 = .ok (.invokespecial 30, 3) := by decide +kernel
theorem dX5_init_43 : decode cX5_init 43 = .ok (.putfield 31, 3) := by decide +kernel
theorem dX5_init_46 : decode cX5_init 46 = .ok (.aload_n 0, 1) := by decide +kernel
theorem dX5_init_47 : decode cX5_init 47 = .ok (.new 35, 3) := by decide +kernel
theorem dX5_init_50 : decode cX5_init 50 = .ok (.dup, 1) := by decide +kernel
theorem dX5_init_51 : decode cX5_init 51 = .ok (.invokespecial 37, 3) := by decide +kernel
theorem dX5_init_54 : decode cX5_init 54 = .ok (.putfield 38, 3) := by decide +kernel
theorem dX5_init_57 : decode cX5_init 57 = .ok (.return_, 1) := by decide +kernel
def wX5 (y : Cy) (b : Nat → Nat) : va_W := (((b 0), .inr (5, [.int 0, .int (900 : Int32), .int (1500 : Int32), .int (20 : Int32), .int 0, .int 0, .int 0, .ref (b 1), .ref (b 6), .ref (b 12)])) :: (((wX4 y (fun i => b (1 + i))) ++ wX0 y (fun i => b (6 + i))) ++ wX7 y (fun i => b (12 + i))))
abbrev rX5_init : Room := { frames := 2, cells := 15, slots := 371, locals := 32 }
set_option maxRecDepth 20000 in
theorem i_X5 (l : Launch) (y : Cy) : CI l y yX5_init cX5_init 1 rX5_init 5 [.int 0, .int 0, .int 0, .int 0, .int 0, .int 0, .int 0, .null, .null, .null] (wX5 y) := by
  refine CI_of (by decide) (by decide) (fun x h0 sz hxl h hnm hlk hret hQ hAe => ?_)
  refine GC_aload_n (pc := 0) h dX5_init_0 rfl 0 rfl ?_
  refine GC_obj (pc := 1) h ol_X5_3 oi_inst oi_code dX5_init_1 (Nat.le_of_ble_eq_true rfl) (Nat.le_of_ble_eq_true rfl) ?_
  refine GC_aload_n (pc := 4) h dX5_init_4 rfl 0 rfl ?_
  refine GC_sipush (pc := 5) (v := (900)) h dX5_init_5 (by decide) ?_
  refine GC_put (pc := 8) h 0 [(h0, .inr (5, [.int 0, .int (900 : Int32), .int 0, .int 0, .int 0, .int 0, .int 0, .null, .null, .null]))] fp_X5_9 rfl rfl rfl (Nat.le_of_ble_eq_true rfl) rfl dX5_init_8 ?_
  refine GC_aload_n (pc := 11) h dX5_init_11 rfl 0 rfl ?_
  refine GC_sipush (pc := 12) (v := (1500)) h dX5_init_12 (by decide) ?_
  refine GC_put (pc := 15) h 0 [(h0, .inr (5, [.int 0, .int (900 : Int32), .int (1500 : Int32), .int 0, .int 0, .int 0, .int 0, .null, .null, .null]))] fp_X5_15 rfl rfl rfl (Nat.le_of_ble_eq_true rfl) rfl dX5_init_15 ?_
  refine GC_aload_n (pc := 18) h dX5_init_18 rfl 0 rfl ?_
  refine GC_bipush (pc := 19) (v := (20)) h dX5_init_19 (by decide) ?_
  refine GC_put (pc := 21) h 0 [(h0, .inr (5, [.int 0, .int (900 : Int32), .int (1500 : Int32), .int (20 : Int32), .int 0, .int 0, .int 0, .null, .null, .null]))] fp_X5_18 rfl rfl rfl (Nat.le_of_ble_eq_true rfl) rfl dX5_init_21 ?_
  refine GC_aload_n (pc := 24) h dX5_init_24 rfl 0 rfl ?_
  refine GC_new (pc := 25) h ln_X5_21 df_X4 (Nat.le_of_ble_eq_true rfl) (Nat.le_of_ble_eq_true rfl) dX5_init_25 (fun q1 => ?_)
  refine GC_dup (pc := 28) h dX5_init_28 rfl ?_
  refine GC_call (pc := 29) h li_X5_23 (i_X4 x.1.2.1 y) (Nat.le_of_ble_eq_true rfl) ⟨Nat.le_of_ble_eq_true rfl, Nat.le_of_ble_eq_true rfl⟩ ⟨Nat.le_of_ble_eq_true rfl, Nat.le_of_ble_eq_true rfl⟩ [(h0, .inr (5, [.int 0, .int (900 : Int32), .int (1500 : Int32), .int (20 : Int32), .int 0, .int 0, .int 0, .null, .null, .null]))] rfl dX5_init_29 (fun b1 hb1 => ?_)
  subst hb1
  refine GC_putF (pc := 32) h (hnm.resolve_right (fun e => e rfl)) 0 ((h0, .inr (5, [.int 0, .int (900 : Int32), .int (1500 : Int32), .int (20 : Int32), .int 0, .int 0, .int 0, .ref (b1 0), .null, .null])) :: (wX4 y b1)) ff_X5_24 rfl rfl rfl (Nat.le_of_ble_eq_true rfl) rfl dX5_init_32 ?_
  refine GC_aload_n (pc := 35) h dX5_init_35 rfl 0 rfl ?_
  refine GC_new (pc := 36) h ln_X5_28 df_X0 (Nat.le_of_ble_eq_true rfl) (Nat.le_of_ble_eq_true rfl) dX5_init_36 (fun q2 => ?_)
  refine GC_dup (pc := 39) h dX5_init_39 rfl ?_
  refine GC_call (pc := 40) h li_X5_30 (i_X0 x.1.2.1 y) (Nat.le_of_ble_eq_true rfl) ⟨Nat.le_of_ble_eq_true rfl, Nat.le_of_ble_eq_true rfl⟩ ⟨Nat.le_of_ble_eq_true rfl, Nat.le_of_ble_eq_true rfl⟩ ((h0, .inr (5, [.int 0, .int (900 : Int32), .int (1500 : Int32), .int (20 : Int32), .int 0, .int 0, .int 0, .ref (b1 0), .null, .null])) :: (wX4 y b1)) rfl dX5_init_40 (fun b2 hb2 => ?_)
  subst hb2
  refine GC_putF (pc := 43) h (hnm.resolve_right (fun e => e rfl)) 0 ((h0, .inr (5, [.int 0, .int (900 : Int32), .int (1500 : Int32), .int (20 : Int32), .int 0, .int 0, .int 0, .ref (b1 0), .ref (b2 0), .null])) :: ((wX4 y b1) ++ wX0 y b2)) ff_X5_31 rfl rfl rfl (Nat.le_of_ble_eq_true rfl) rfl dX5_init_43 ?_
  refine GC_aload_n (pc := 46) h dX5_init_46 rfl 0 rfl ?_
  refine GC_new (pc := 47) h ln_X5_35 df_X7 (Nat.le_of_ble_eq_true rfl) (Nat.le_of_ble_eq_true rfl) dX5_init_47 (fun q3 => ?_)
  refine GC_dup (pc := 50) h dX5_init_50 rfl ?_
  refine GC_call (pc := 51) h li_X5_37 (i_X7 x.1.2.1 y) (Nat.le_of_ble_eq_true rfl) ⟨Nat.le_of_ble_eq_true rfl, Nat.le_of_ble_eq_true rfl⟩ ⟨Nat.le_of_ble_eq_true rfl, Nat.le_of_ble_eq_true rfl⟩ ((h0, .inr (5, [.int 0, .int (900 : Int32), .int (1500 : Int32), .int (20 : Int32), .int 0, .int 0, .int 0, .ref (b1 0), .ref (b2 0), .null])) :: ((wX4 y b1) ++ wX0 y b2)) rfl dX5_init_51 (fun b3 hb3 => ?_)
  subst hb3
  refine GC_putF (pc := 54) h (hnm.resolve_right (fun e => e rfl)) 0 ((h0, .inr (5, [.int 0, .int (900 : Int32), .int (1500 : Int32), .int (20 : Int32), .int 0, .int 0, .int 0, .ref (b1 0), .ref (b2 0), .ref (b3 0)])) :: (((wX4 y b1) ++ wX0 y b2) ++ wX7 y b3)) ff_X5_38 rfl rfl rfl (Nat.le_of_ble_eq_true rfl) rfl dX5_init_54 ?_
  exact GC_ret (pc := 57) (Wr := wX5 y) h hlk hret hQ hAe (fun i => if i < 1 then h0 else if i < 6 then b1 (i - 1) else if i < 12 then b2 (i - 6) else b3 (i - 12)) rfl rfl rfl rfl dX5_init_57
theorem hd_X5 (y : Cy) (b : Nat → Nat) : (b 0, (.inr (5, [.int 0, .int 900, .int 1500, .int 20, .int 0, .int 0, .int 0, .ref (b 1), .ref (b 6), .ref (b 12)]) : va_E)) ∈ wX5 y b := List.mem_cons_self
theorem dX1_init_0 : decode cX1_init 0 = .ok (.aload_n 0, 1) := by decide +kernel
theorem dX1_init_1 : decode cX1_init 1 = .ok (.invokespecial 3, 3) := by decide +kernel
theorem dX1_init_4 : decode cX1_init 4 = .ok (.aload_n 0, 1) := by decide +kernel
theorem dX1_init_5 : decode cX1_init 5 = .ok (.bipush 61, 2) := by decide +kernel
theorem dX1_init_7 : decode cX1_init 7 = .ok (.newarray .int, 2) := by decide +kernel
theorem dX1_init_9 : decode cX1_init 9 = .ok (.putfield 11, 3) := by decide +kernel
theorem dX1_init_12 : decode cX1_init 12 = .ok (.aload_n 0, 1) := by decide +kernel
theorem dX1_init_13 : decode cX1_init 13 = .ok (.bipush 61, 2) := by decide +kernel
theorem dX1_init_15 : decode cX1_init 15 = .ok (.newarray .int, 2) := by decide +kernel
theorem dX1_init_17 : decode cX1_init 17 = .ok (.putfield 15, 3) := by decide +kernel
theorem dX1_init_20 : decode cX1_init 20 = .ok (.aload_n 0, 1) := by decide +kernel
theorem dX1_init_21 : decode cX1_init 21 = .ok (.bipush 61, 2) := by decide +kernel
theorem dX1_init_23 : decode cX1_init 23 = .ok (.newarray .int, 2) := by decide +kernel
theorem dX1_init_25 : decode cX1_init 25 = .ok (.putfield 18, 3) := by decide +kernel
theorem dX1_init_28 : decode cX1_init 28 = .ok (.aload_n 0, 1) := by decide +kernel
theorem dX1_init_29 : decode cX1_init 29 = .ok (.bipush 61, 2) := by decide +kernel
theorem dX1_init_31 : decode cX1_init 31 = .ok (.newarray .int, 2) := by decide +kernel
theorem dX1_init_33 : decode cX1_init 33 = .ok (.putfield 21, 3) := by decide +kernel
theorem dX1_init_36 : decode cX1_init 36 = .ok (.aload_n 0, 1) := by decide +kernel
theorem dX1_init_37 : decode cX1_init 37 = .ok (.bipush 61, 2) := by decide +kernel
theorem dX1_init_39 : decode cX1_init 39 = .ok (.newarray .int, 2) := by decide +kernel
theorem dX1_init_41 : decode cX1_init 41 = .ok (.putfield 24, 3) := by decide +kernel
theorem dX1_init_44 : decode cX1_init 44 = .ok (.aload_n 0, 1) := by decide +kernel
theorem dX1_init_45 : decode cX1_init 45 = .ok (.bipush 61, 2) := by decide +kernel
theorem dX1_init_47 : decode cX1_init 47 = .ok (.newarray .int, 2) := by decide +kernel
theorem dX1_init_49 : decode cX1_init 49 = .ok (.putfield 27, 3) := by decide +kernel
theorem dX1_init_52 : decode cX1_init 52 = .ok (.aload_n 0, 1) := by decide +kernel
theorem dX1_init_53 : decode cX1_init 53 = .ok (.bipush 61, 2) := by decide +kernel
theorem dX1_init_55 : decode cX1_init 55 = .ok (.newarray .int, 2) := by decide +kernel
theorem dX1_init_57 : decode cX1_init 57 = .ok (.putfield 30, 3) := by decide +kernel
theorem dX1_init_60 : decode cX1_init 60 = .ok (.aload_n 0, 1) := by decide +kernel
theorem dX1_init_61 : decode cX1_init 61 = .ok (.bipush 61, 2) := by decide +kernel
theorem dX1_init_63 : decode cX1_init 63 = .ok (.newarray .int, 2) := by decide +kernel
theorem dX1_init_65 : decode cX1_init 65 = .ok (.putfield 33, 3) := by decide +kernel
theorem dX1_init_68 : decode cX1_init 68 = .ok (.aload_n 0, 1) := by decide +kernel
theorem dX1_init_69 : decode cX1_init 69 = .ok (.bipush 61, 2) := by decide +kernel
theorem dX1_init_71 : decode cX1_init 71 = .ok (.newarray .int, 2) := by decide +kernel
theorem dX1_init_73 : decode cX1_init 73 = .ok (.putfield 36, 3) := by decide +kernel
theorem dX1_init_76 : decode cX1_init 76 = .ok (.return_, 1) := by decide +kernel
def wX1 (y : Cy) (b : Nat → Nat) : va_W := [((b 0), .inr (1, [.int 0, .int 0, .int 0, .int 0, .int 0, .int 0, .int 0, .int 0, .ref (b 1), .ref (b 2), .ref (b 3), .ref (b 4), .ref (b 5), .ref (b 6), .ref (b 7), .ref (b 8), .ref (b 9)])), ((b 1), .inl (y.2.2 0, (61, .inl (fun _ => 0)))), ((b 2), .inl (y.2.2 0, (61, .inl (fun _ => 0)))), ((b 3), .inl (y.2.2 0, (61, .inl (fun _ => 0)))), ((b 4), .inl (y.2.2 0, (61, .inl (fun _ => 0)))), ((b 5), .inl (y.2.2 0, (61, .inl (fun _ => 0)))), ((b 6), .inl (y.2.2 0, (61, .inl (fun _ => 0)))), ((b 7), .inl (y.2.2 0, (61, .inl (fun _ => 0)))), ((b 8), .inl (y.2.2 0, (61, .inl (fun _ => 0)))), ((b 9), .inl (y.2.2 0, (61, .inl (fun _ => 0))))]
abbrev rX1_init : Room := { frames := 1, cells := 9, slots := 549, locals := 12 }
set_option maxRecDepth 20000 in
theorem i_X1 (l : Launch) (y : Cy) : CI l y yX1_init cX1_init 1 rX1_init 1 [.int 0, .int 0, .int 0, .int 0, .int 0, .int 0, .int 0, .int 0, .null, .null, .null, .null, .null, .null, .null, .null, .null] (wX1 y) := by
  refine CI_of (by decide) (by decide) (fun x h0 sz hxl h hnm hlk hret hQ hAe => ?_)
  refine GC_aload_n (pc := 0) h dX1_init_0 rfl 0 rfl ?_
  refine GC_obj (pc := 1) h ol_X1_3 oi_inst oi_code dX1_init_1 (Nat.le_of_ble_eq_true rfl) (Nat.le_of_ble_eq_true rfl) ?_
  refine GC_aload_n (pc := 4) h dX1_init_4 rfl 0 rfl ?_
  refine GC_bipush (pc := 5) (v := (61)) h dX1_init_5 (by decide) ?_
  refine GC_newa (pc := 7) (at_ := .int) (ty := .int) h 0 rfl ac_int rfl (fun _ _ z => z) (N' := 61) (fun _ => rfl) (by decide) (by decide) (Nat.le_of_ble_eq_true rfl) (Nat.le_of_ble_eq_true rfl) (Nat.le_of_ble_eq_true rfl) dX1_init_7 (fun q1 => ?_)
  refine GC_putF (pc := 9) h (hnm.resolve_right (fun e => e rfl)) 0 [(h0, .inr (1, [.int 0, .int 0, .int 0, .int 0, .int 0, .int 0, .int 0, .int 0, .ref q1, .null, .null, .null, .null, .null, .null, .null, .null])), (q1, .inl (y.2.2 0, (61, .inl (fun _ => 0))))] ff_X1_11 rfl rfl rfl (Nat.le_of_ble_eq_true rfl) rfl dX1_init_9 ?_
  refine GC_aload_n (pc := 12) h dX1_init_12 rfl 0 rfl ?_
  refine GC_bipush (pc := 13) (v := (61)) h dX1_init_13 (by decide) ?_
  refine GC_newa (pc := 15) (at_ := .int) (ty := .int) h 0 rfl ac_int rfl (fun _ _ z => z) (N' := 61) (fun _ => rfl) (by decide) (by decide) (Nat.le_of_ble_eq_true rfl) (Nat.le_of_ble_eq_true rfl) (Nat.le_of_ble_eq_true rfl) dX1_init_15 (fun q2 => ?_)
  refine GC_putF (pc := 17) h (hnm.resolve_right (fun e => e rfl)) 0 [(h0, .inr (1, [.int 0, .int 0, .int 0, .int 0, .int 0, .int 0, .int 0, .int 0, .ref q1, .ref q2, .null, .null, .null, .null, .null, .null, .null])), (q1, .inl (y.2.2 0, (61, .inl (fun _ => 0)))), (q2, .inl (y.2.2 0, (61, .inl (fun _ => 0))))] ff_X1_15 rfl rfl rfl (Nat.le_of_ble_eq_true rfl) rfl dX1_init_17 ?_
  refine GC_aload_n (pc := 20) h dX1_init_20 rfl 0 rfl ?_
  refine GC_bipush (pc := 21) (v := (61)) h dX1_init_21 (by decide) ?_
  refine GC_newa (pc := 23) (at_ := .int) (ty := .int) h 0 rfl ac_int rfl (fun _ _ z => z) (N' := 61) (fun _ => rfl) (by decide) (by decide) (Nat.le_of_ble_eq_true rfl) (Nat.le_of_ble_eq_true rfl) (Nat.le_of_ble_eq_true rfl) dX1_init_23 (fun q3 => ?_)
  refine GC_putF (pc := 25) h (hnm.resolve_right (fun e => e rfl)) 0 [(h0, .inr (1, [.int 0, .int 0, .int 0, .int 0, .int 0, .int 0, .int 0, .int 0, .ref q1, .ref q2, .ref q3, .null, .null, .null, .null, .null, .null])), (q1, .inl (y.2.2 0, (61, .inl (fun _ => 0)))), (q2, .inl (y.2.2 0, (61, .inl (fun _ => 0)))), (q3, .inl (y.2.2 0, (61, .inl (fun _ => 0))))] ff_X1_18 rfl rfl rfl (Nat.le_of_ble_eq_true rfl) rfl dX1_init_25 ?_
  refine GC_aload_n (pc := 28) h dX1_init_28 rfl 0 rfl ?_
  refine GC_bipush (pc := 29) (v := (61)) h dX1_init_29 (by decide) ?_
  refine GC_newa (pc := 31) (at_ := .int) (ty := .int) h 0 rfl ac_int rfl (fun _ _ z => z) (N' := 61) (fun _ => rfl) (by decide) (by decide) (Nat.le_of_ble_eq_true rfl) (Nat.le_of_ble_eq_true rfl) (Nat.le_of_ble_eq_true rfl) dX1_init_31 (fun q4 => ?_)
  refine GC_putF (pc := 33) h (hnm.resolve_right (fun e => e rfl)) 0 [(h0, .inr (1, [.int 0, .int 0, .int 0, .int 0, .int 0, .int 0, .int 0, .int 0, .ref q1, .ref q2, .ref q3, .ref q4, .null, .null, .null, .null, .null])), (q1, .inl (y.2.2 0, (61, .inl (fun _ => 0)))), (q2, .inl (y.2.2 0, (61, .inl (fun _ => 0)))), (q3, .inl (y.2.2 0, (61, .inl (fun _ => 0)))), (q4, .inl (y.2.2 0, (61, .inl (fun _ => 0))))] ff_X1_21 rfl rfl rfl (Nat.le_of_ble_eq_true rfl) rfl dX1_init_33 ?_
  refine GC_aload_n (pc := 36) h dX1_init_36 rfl 0 rfl ?_
  refine GC_bipush (pc := 37) (v := (61)) h dX1_init_37 (by decide) ?_
  refine GC_newa (pc := 39) (at_ := .int) (ty := .int) h 0 rfl ac_int rfl (fun _ _ z => z) (N' := 61) (fun _ => rfl) (by decide) (by decide) (Nat.le_of_ble_eq_true rfl) (Nat.le_of_ble_eq_true rfl) (Nat.le_of_ble_eq_true rfl) dX1_init_39 (fun q5 => ?_)
  refine GC_putF (pc := 41) h (hnm.resolve_right (fun e => e rfl)) 0 [(h0, .inr (1, [.int 0, .int 0, .int 0, .int 0, .int 0, .int 0, .int 0, .int 0, .ref q1, .ref q2, .ref q3, .ref q4, .ref q5, .null, .null, .null, .null])), (q1, .inl (y.2.2 0, (61, .inl (fun _ => 0)))), (q2, .inl (y.2.2 0, (61, .inl (fun _ => 0)))), (q3, .inl (y.2.2 0, (61, .inl (fun _ => 0)))), (q4, .inl (y.2.2 0, (61, .inl (fun _ => 0)))), (q5, .inl (y.2.2 0, (61, .inl (fun _ => 0))))] ff_X1_24 rfl rfl rfl (Nat.le_of_ble_eq_true rfl) rfl dX1_init_41 ?_
  refine GC_aload_n (pc := 44) h dX1_init_44 rfl 0 rfl ?_
  refine GC_bipush (pc := 45) (v := (61)) h dX1_init_45 (by decide) ?_
  refine GC_newa (pc := 47) (at_ := .int) (ty := .int) h 0 rfl ac_int rfl (fun _ _ z => z) (N' := 61) (fun _ => rfl) (by decide) (by decide) (Nat.le_of_ble_eq_true rfl) (Nat.le_of_ble_eq_true rfl) (Nat.le_of_ble_eq_true rfl) dX1_init_47 (fun q6 => ?_)
  refine GC_putF (pc := 49) h (hnm.resolve_right (fun e => e rfl)) 0 [(h0, .inr (1, [.int 0, .int 0, .int 0, .int 0, .int 0, .int 0, .int 0, .int 0, .ref q1, .ref q2, .ref q3, .ref q4, .ref q5, .ref q6, .null, .null, .null])), (q1, .inl (y.2.2 0, (61, .inl (fun _ => 0)))), (q2, .inl (y.2.2 0, (61, .inl (fun _ => 0)))), (q3, .inl (y.2.2 0, (61, .inl (fun _ => 0)))), (q4, .inl (y.2.2 0, (61, .inl (fun _ => 0)))), (q5, .inl (y.2.2 0, (61, .inl (fun _ => 0)))), (q6, .inl (y.2.2 0, (61, .inl (fun _ => 0))))] ff_X1_27 rfl rfl rfl (Nat.le_of_ble_eq_true rfl) rfl dX1_init_49 ?_
  refine GC_aload_n (pc := 52) h dX1_init_52 rfl 0 rfl ?_
  refine GC_bipush (pc := 53) (v := (61)) h dX1_init_53 (by decide) ?_
  refine GC_newa (pc := 55) (at_ := .int) (ty := .int) h 0 rfl ac_int rfl (fun _ _ z => z) (N' := 61) (fun _ => rfl) (by decide) (by decide) (Nat.le_of_ble_eq_true rfl) (Nat.le_of_ble_eq_true rfl) (Nat.le_of_ble_eq_true rfl) dX1_init_55 (fun q7 => ?_)
  refine GC_putF (pc := 57) h (hnm.resolve_right (fun e => e rfl)) 0 [(h0, .inr (1, [.int 0, .int 0, .int 0, .int 0, .int 0, .int 0, .int 0, .int 0, .ref q1, .ref q2, .ref q3, .ref q4, .ref q5, .ref q6, .ref q7, .null, .null])), (q1, .inl (y.2.2 0, (61, .inl (fun _ => 0)))), (q2, .inl (y.2.2 0, (61, .inl (fun _ => 0)))), (q3, .inl (y.2.2 0, (61, .inl (fun _ => 0)))), (q4, .inl (y.2.2 0, (61, .inl (fun _ => 0)))), (q5, .inl (y.2.2 0, (61, .inl (fun _ => 0)))), (q6, .inl (y.2.2 0, (61, .inl (fun _ => 0)))), (q7, .inl (y.2.2 0, (61, .inl (fun _ => 0))))] ff_X1_30 rfl rfl rfl (Nat.le_of_ble_eq_true rfl) rfl dX1_init_57 ?_
  refine GC_aload_n (pc := 60) h dX1_init_60 rfl 0 rfl ?_
  refine GC_bipush (pc := 61) (v := (61)) h dX1_init_61 (by decide) ?_
  refine GC_newa (pc := 63) (at_ := .int) (ty := .int) h 0 rfl ac_int rfl (fun _ _ z => z) (N' := 61) (fun _ => rfl) (by decide) (by decide) (Nat.le_of_ble_eq_true rfl) (Nat.le_of_ble_eq_true rfl) (Nat.le_of_ble_eq_true rfl) dX1_init_63 (fun q8 => ?_)
  refine GC_putF (pc := 65) h (hnm.resolve_right (fun e => e rfl)) 0 [(h0, .inr (1, [.int 0, .int 0, .int 0, .int 0, .int 0, .int 0, .int 0, .int 0, .ref q1, .ref q2, .ref q3, .ref q4, .ref q5, .ref q6, .ref q7, .ref q8, .null])), (q1, .inl (y.2.2 0, (61, .inl (fun _ => 0)))), (q2, .inl (y.2.2 0, (61, .inl (fun _ => 0)))), (q3, .inl (y.2.2 0, (61, .inl (fun _ => 0)))), (q4, .inl (y.2.2 0, (61, .inl (fun _ => 0)))), (q5, .inl (y.2.2 0, (61, .inl (fun _ => 0)))), (q6, .inl (y.2.2 0, (61, .inl (fun _ => 0)))), (q7, .inl (y.2.2 0, (61, .inl (fun _ => 0)))), (q8, .inl (y.2.2 0, (61, .inl (fun _ => 0))))] ff_X1_33 rfl rfl rfl (Nat.le_of_ble_eq_true rfl) rfl dX1_init_65 ?_
  refine GC_aload_n (pc := 68) h dX1_init_68 rfl 0 rfl ?_
  refine GC_bipush (pc := 69) (v := (61)) h dX1_init_69 (by decide) ?_
  refine GC_newa (pc := 71) (at_ := .int) (ty := .int) h 0 rfl ac_int rfl (fun _ _ z => z) (N' := 61) (fun _ => rfl) (by decide) (by decide) (Nat.le_of_ble_eq_true rfl) (Nat.le_of_ble_eq_true rfl) (Nat.le_of_ble_eq_true rfl) dX1_init_71 (fun q9 => ?_)
  refine GC_putF (pc := 73) h (hnm.resolve_right (fun e => e rfl)) 0 [(h0, .inr (1, [.int 0, .int 0, .int 0, .int 0, .int 0, .int 0, .int 0, .int 0, .ref q1, .ref q2, .ref q3, .ref q4, .ref q5, .ref q6, .ref q7, .ref q8, .ref q9])), (q1, .inl (y.2.2 0, (61, .inl (fun _ => 0)))), (q2, .inl (y.2.2 0, (61, .inl (fun _ => 0)))), (q3, .inl (y.2.2 0, (61, .inl (fun _ => 0)))), (q4, .inl (y.2.2 0, (61, .inl (fun _ => 0)))), (q5, .inl (y.2.2 0, (61, .inl (fun _ => 0)))), (q6, .inl (y.2.2 0, (61, .inl (fun _ => 0)))), (q7, .inl (y.2.2 0, (61, .inl (fun _ => 0)))), (q8, .inl (y.2.2 0, (61, .inl (fun _ => 0)))), (q9, .inl (y.2.2 0, (61, .inl (fun _ => 0))))] ff_X1_36 rfl rfl rfl (Nat.le_of_ble_eq_true rfl) rfl dX1_init_73 ?_
  exact GC_ret (pc := 76) (Wr := wX1 y) h hlk hret hQ hAe (fun i => if i < 1 then h0 else if i < 2 then q1 else if i < 3 then q2 else if i < 4 then q3 else if i < 5 then q4 else if i < 6 then q5 else if i < 7 then q6 else if i < 8 then q7 else if i < 9 then q8 else q9) rfl rfl rfl rfl dX1_init_76
theorem dX2_init_0 : decode cX2_init 0 = .ok (.aload_n 0, 1) := by decide +kernel
theorem dX2_init_1 : decode cX2_init 1 = .ok (.invokespecial 3, 3) := by decide +kernel
theorem dX2_init_4 : decode cX2_init 4 = .ok (.aload_n 0, 1) := by decide +kernel
theorem dX2_init_5 : decode cX2_init 5 = .ok (.iconst 4, 1) := by decide +kernel
theorem dX2_init_6 : decode cX2_init 6 = .ok (.anewarray 9, 3) := by decide +kernel
theorem dX2_init_9 : decode cX2_init 9 = .ok (.putfield 11, 3) := by decide +kernel
theorem dX2_init_12 : decode cX2_init 12 = .ok (.iconst 0, 1) := by decide +kernel
theorem dX2_init_13 : decode cX2_init 13 = .ok (.istore_n 1, 1) := by decide +kernel
theorem dX2_init_14 : decode cX2_init 14 = .ok (.iload_n 1, 1) := by decide +kernel
theorem dX2_init_15 : decode cX2_init 15 = .ok (.iconst 4, 1) := by decide +kernel
theorem dX2_init_16 : decode cX2_init 16 = .ok (.if_icmp .ge 22, 3) := by decide +kernel
theorem dX2_init_19 : decode cX2_init 19 = .ok (.aload_n 0, 1) := by decide +kernel
theorem dX2_init_20 : decode cX2_init 20 = .ok (.getfield 11, 3) := by decide +kernel
theorem dX2_init_23 : decode cX2_init 23 = .ok (.iload_n 1, 1) := by decide +kernel
theorem dX2_init_24 : decode cX2_init 24 = .ok (.new 9, 3) := by decide +kernel
theorem dX2_init_27 : decode cX2_init 27 = .ok (.dup, 1) := by decide +kernel
theorem dX2_init_28 : decode cX2_init 28 = .ok (.invokespecial 17, 3) := by decide +kernel
theorem dX2_init_31 : decode cX2_init 31 = .ok (.aastore, 1) := by decide +kernel
theorem dX2_init_32 : decode cX2_init 32 = .ok (.iinc 1 1, 3) := by decide +kernel
theorem dX2_init_35 : decode cX2_init 35 = .ok (.goto (-21), 3) := by decide +kernel
theorem dX2_init_38 : decode cX2_init 38 = .ok (.return_, 1) := by decide +kernel
def wX2 (y : Cy) (b : Nat → Nat) : va_W := (((b 0), .inr (2, [.ref (b 1), .int 0])) :: ((b 1), .inl (y.2.2 3, (4, .inr (.inr (.inr (.inr (va_up (va_up (va_up (va_up (fun _ => none) 0 (some (b 2))) 1 (some (b 18))) 2 (some (b 34))) 3 (some (b 50))))))))) :: ((((wX5 y (fun i => b (2 + i))) ++ wX5 y (fun i => b (18 + i))) ++ wX5 y (fun i => b (34 + i))) ++ wX5 y (fun i => b (50 + i))))
abbrev rX2_init : Room := { frames := 3, cells := 65, slots := 1528, locals := 52 }
set_option maxRecDepth 20000 in
theorem i_X2 (l : Launch) (y : Cy) : CI l y yX2_init cX2_init 2 rX2_init 2 [.null, .int 0] (wX2 y) := by
  refine CI_of (by decide) (by decide) (fun x h0 sz hxl h hnm hlk hret hQ hAe => ?_)
  refine GC_aload_n (pc := 0) h dX2_init_0 rfl 0 rfl ?_
  refine GC_obj (pc := 1) h ol_X2_3 oi_inst oi_code dX2_init_1 (Nat.le_of_ble_eq_true rfl) (Nat.le_of_ble_eq_true rfl) ?_
  refine GC_aload_n (pc := 4) h dX2_init_4 rfl 0 rfl ?_
  refine GC_iconst (pc := 5) (v := (4)) h dX2_init_5 (by decide) ?_
  refine GC_newq (pc := 6) h cl_X2_9 (N' := 4) (by decide) (by decide) (Nat.le_of_ble_eq_true rfl) (Nat.le_of_ble_eq_true rfl) (Nat.le_of_ble_eq_true rfl) dX2_init_6 (fun q1 => ?_)
  refine GC_putF (pc := 9) h (hnm.resolve_right (fun e => e rfl)) 0 [(h0, .inr (2, [.ref q1, .int 0])), (q1, .inl (y.2.2 3, (4, .inr (.inr (.inr (.inr (fun _ => none)))))))] ff_X2_11 rfl rfl rfl (Nat.le_of_ble_eq_true rfl) rfl dX2_init_9 ?_
  refine GC_iconst (pc := 12) (v := (0)) h dX2_init_12 (by decide) ?_
  refine GC_istore_n (pc := 13) h [(1, .int (0 : Int32)), (0, .ref h0)] dX2_init_13 rfl (by decide) rfl ?_
  refine GC_iload_n (pc := 14) h dX2_init_14 rfl 0 rfl ?_
  refine GC_iconst (pc := 15) (v := (4)) h dX2_init_15 (by decide) ?_
  refine GC_geF (pc := 16) (tgt := 38) h dX2_init_16 (by decide) (by decide) ?_
  refine GC_aload_n (pc := 19) h dX2_init_19 rfl 1 rfl ?_
  refine GC_get (pc := 20) (v := .ref q1) h 0 fl_X2_11 rfl rfl dX2_init_20 ?_
  refine GC_iload_n (pc := 23) h dX2_init_23 rfl 0 rfl ?_
  refine GC_new (pc := 24) h ln_X2_9 df_X5 (Nat.le_of_ble_eq_true rfl) (Nat.le_of_ble_eq_true rfl) dX2_init_24 (fun q2 => ?_)
  refine GC_dup (pc := 27) h dX2_init_27 rfl ?_
  refine GC_call (pc := 28) h li_X2_17 (i_X5 x.1.2.1 y) (Nat.le_of_ble_eq_true rfl) ⟨Nat.le_of_ble_eq_true rfl, Nat.le_of_ble_eq_true rfl⟩ ⟨Nat.le_of_ble_eq_true rfl, Nat.le_of_ble_eq_true rfl⟩ [(h0, .inr (2, [.ref q1, .int 0])), (q1, .inl (y.2.2 3, (4, .inr (.inr (.inr (.inr (fun _ => none)))))))] rfl dX2_init_28 (fun b2 hb2 => ?_)
  subst hb2
  refine GC_aast (pc := 31) h 1 ((h0, .inr (2, [.ref q1, .int 0])) :: (q1, .inl (y.2.2 3, (4, .inr (.inr (.inr (.inr (va_up (fun _ => none) 0 (some (b2 0))))))))) :: (wX5 y b2)) rfl (List.mem_cons_of_mem _ (List.mem_cons_of_mem _ ((hd_X5 y b2)))) (by unfold vp_in; decide) rfl dX2_init_31 ?_
  refine GC_iinc (pc := 32) (v := (1)) h [(1, .int (1 : Int32)), (0, .ref h0)] dX2_init_32 (by decide) 0 rfl (by decide) rfl ?_
  refine GC_goto (pc := 35) (tgt := 14) h dX2_init_35 (by decide) ?_
  refine GC_iload_n (pc := 14) h dX2_init_14 rfl 0 rfl ?_
  refine GC_iconst (pc := 15) (v := (4)) h dX2_init_15 (by decide) ?_
  refine GC_geF (pc := 16) (tgt := 38) h dX2_init_16 (by decide) (by decide) ?_
  refine GC_aload_n (pc := 19) h dX2_init_19 rfl 1 rfl ?_
  refine GC_get (pc := 20) (v := .ref q1) h 0 fl_X2_11 rfl rfl dX2_init_20 ?_
  refine GC_iload_n (pc := 23) h dX2_init_23 rfl 0 rfl ?_
  refine GC_new (pc := 24) h ln_X2_9 df_X5 (Nat.le_of_ble_eq_true rfl) (Nat.le_of_ble_eq_true rfl) dX2_init_24 (fun q3 => ?_)
  refine GC_dup (pc := 27) h dX2_init_27 rfl ?_
  refine GC_call (pc := 28) h li_X2_17 (i_X5 x.1.2.1 y) (Nat.le_of_ble_eq_true rfl) ⟨Nat.le_of_ble_eq_true rfl, Nat.le_of_ble_eq_true rfl⟩ ⟨Nat.le_of_ble_eq_true rfl, Nat.le_of_ble_eq_true rfl⟩ ((h0, .inr (2, [.ref q1, .int 0])) :: (q1, .inl (y.2.2 3, (4, .inr (.inr (.inr (.inr (va_up (fun _ => none) 0 (some (b2 0))))))))) :: (wX5 y b2)) rfl dX2_init_28 (fun b3 hb3 => ?_)
  subst hb3
  refine GC_aast (pc := 31) h 1 ((h0, .inr (2, [.ref q1, .int 0])) :: (q1, .inl (y.2.2 3, (4, .inr (.inr (.inr (.inr (va_up (va_up (fun _ => none) 0 (some (b2 0))) 1 (some (b3 0))))))))) :: ((wX5 y b2) ++ wX5 y b3)) rfl (List.mem_cons_of_mem _ (List.mem_cons_of_mem _ (List.mem_append_right _ (hd_X5 y b3)))) (by unfold vp_in; decide) rfl dX2_init_31 ?_
  refine GC_iinc (pc := 32) (v := (2)) h [(1, .int (2 : Int32)), (0, .ref h0)] dX2_init_32 (by decide) 0 rfl (by decide) rfl ?_
  refine GC_goto (pc := 35) (tgt := 14) h dX2_init_35 (by decide) ?_
  refine GC_iload_n (pc := 14) h dX2_init_14 rfl 0 rfl ?_
  refine GC_iconst (pc := 15) (v := (4)) h dX2_init_15 (by decide) ?_
  refine GC_geF (pc := 16) (tgt := 38) h dX2_init_16 (by decide) (by decide) ?_
  refine GC_aload_n (pc := 19) h dX2_init_19 rfl 1 rfl ?_
  refine GC_get (pc := 20) (v := .ref q1) h 0 fl_X2_11 rfl rfl dX2_init_20 ?_
  refine GC_iload_n (pc := 23) h dX2_init_23 rfl 0 rfl ?_
  refine GC_new (pc := 24) h ln_X2_9 df_X5 (Nat.le_of_ble_eq_true rfl) (Nat.le_of_ble_eq_true rfl) dX2_init_24 (fun q4 => ?_)
  refine GC_dup (pc := 27) h dX2_init_27 rfl ?_
  refine GC_call (pc := 28) h li_X2_17 (i_X5 x.1.2.1 y) (Nat.le_of_ble_eq_true rfl) ⟨Nat.le_of_ble_eq_true rfl, Nat.le_of_ble_eq_true rfl⟩ ⟨Nat.le_of_ble_eq_true rfl, Nat.le_of_ble_eq_true rfl⟩ ((h0, .inr (2, [.ref q1, .int 0])) :: (q1, .inl (y.2.2 3, (4, .inr (.inr (.inr (.inr (va_up (va_up (fun _ => none) 0 (some (b2 0))) 1 (some (b3 0))))))))) :: ((wX5 y b2) ++ wX5 y b3)) rfl dX2_init_28 (fun b4 hb4 => ?_)
  subst hb4
  refine GC_aast (pc := 31) h 1 ((h0, .inr (2, [.ref q1, .int 0])) :: (q1, .inl (y.2.2 3, (4, .inr (.inr (.inr (.inr (va_up (va_up (va_up (fun _ => none) 0 (some (b2 0))) 1 (some (b3 0))) 2 (some (b4 0))))))))) :: (((wX5 y b2) ++ wX5 y b3) ++ wX5 y b4)) rfl (List.mem_cons_of_mem _ (List.mem_cons_of_mem _ (List.mem_append_right _ (hd_X5 y b4)))) (by unfold vp_in; decide) rfl dX2_init_31 ?_
  refine GC_iinc (pc := 32) (v := (3)) h [(1, .int (3 : Int32)), (0, .ref h0)] dX2_init_32 (by decide) 0 rfl (by decide) rfl ?_
  refine GC_goto (pc := 35) (tgt := 14) h dX2_init_35 (by decide) ?_
  refine GC_iload_n (pc := 14) h dX2_init_14 rfl 0 rfl ?_
  refine GC_iconst (pc := 15) (v := (4)) h dX2_init_15 (by decide) ?_
  refine GC_geF (pc := 16) (tgt := 38) h dX2_init_16 (by decide) (by decide) ?_
  refine GC_aload_n (pc := 19) h dX2_init_19 rfl 1 rfl ?_
  refine GC_get (pc := 20) (v := .ref q1) h 0 fl_X2_11 rfl rfl dX2_init_20 ?_
  refine GC_iload_n (pc := 23) h dX2_init_23 rfl 0 rfl ?_
  refine GC_new (pc := 24) h ln_X2_9 df_X5 (Nat.le_of_ble_eq_true rfl) (Nat.le_of_ble_eq_true rfl) dX2_init_24 (fun q5 => ?_)
  refine GC_dup (pc := 27) h dX2_init_27 rfl ?_
  refine GC_call (pc := 28) h li_X2_17 (i_X5 x.1.2.1 y) (Nat.le_of_ble_eq_true rfl) ⟨Nat.le_of_ble_eq_true rfl, Nat.le_of_ble_eq_true rfl⟩ ⟨Nat.le_of_ble_eq_true rfl, Nat.le_of_ble_eq_true rfl⟩ ((h0, .inr (2, [.ref q1, .int 0])) :: (q1, .inl (y.2.2 3, (4, .inr (.inr (.inr (.inr (va_up (va_up (va_up (fun _ => none) 0 (some (b2 0))) 1 (some (b3 0))) 2 (some (b4 0))))))))) :: (((wX5 y b2) ++ wX5 y b3) ++ wX5 y b4)) rfl dX2_init_28 (fun b5 hb5 => ?_)
  subst hb5
  refine GC_aast (pc := 31) h 1 ((h0, .inr (2, [.ref q1, .int 0])) :: (q1, .inl (y.2.2 3, (4, .inr (.inr (.inr (.inr (va_up (va_up (va_up (va_up (fun _ => none) 0 (some (b2 0))) 1 (some (b3 0))) 2 (some (b4 0))) 3 (some (b5 0))))))))) :: ((((wX5 y b2) ++ wX5 y b3) ++ wX5 y b4) ++ wX5 y b5)) rfl (List.mem_cons_of_mem _ (List.mem_cons_of_mem _ (List.mem_append_right _ (hd_X5 y b5)))) (by unfold vp_in; decide) rfl dX2_init_31 ?_
  refine GC_iinc (pc := 32) (v := (4)) h [(1, .int (4 : Int32)), (0, .ref h0)] dX2_init_32 (by decide) 0 rfl (by decide) rfl ?_
  refine GC_goto (pc := 35) (tgt := 14) h dX2_init_35 (by decide) ?_
  refine GC_iload_n (pc := 14) h dX2_init_14 rfl 0 rfl ?_
  refine GC_iconst (pc := 15) (v := (4)) h dX2_init_15 (by decide) ?_
  refine GC_geT (pc := 16) (tgt := 38) h dX2_init_16 (by decide) (by decide) ?_
  exact GC_ret (pc := 38) (Wr := wX2 y) h hlk hret hQ hAe (fun i => if i < 1 then h0 else if i < 2 then q1 else if i < 18 then b2 (i - 2) else if i < 34 then b3 (i - 18) else if i < 50 then b4 (i - 34) else b5 (i - 50)) rfl rfl rfl rfl dX2_init_38
theorem dX3_init_0 : decode cX3_init 0 = .ok (.aload_n 0, 1) := by decide +kernel
theorem dX3_init_1 : decode cX3_init 1 = .ok (.invokespecial 3, 3) := by decide +kernel
theorem dX3_init_4 : decode cX3_init 4 = .ok (.aload_n 0, 1) := by decide +kernel
theorem dX3_init_5 : decode cX3_init 5 = .ok (.new 9, 3) := by decide +kernel
theorem dX3_init_8 : decode cX3_init 8 = .ok (.dup, 1) := by decide +kernel
theorem dX3_init_9 : decode cX3_init 9 = .ok (.invokespecial 11, 3) := by decide +kernel
theorem dX3_init_12 : decode cX3_init 12 = .ok (.putfield 12, 3) := by decide +kernel
theorem dX3_init_15 : decode cX3_init 15 = .ok (.aload_n 0, 1) := by decide +kernel
theorem dX3_init_16 : decode cX3_init 16 = .ok (.bipush 60, 2) := by decide +kernel
theorem dX3_init_18 : decode cX3_init 18 = .ok (.newarray .boolean, 2) := by decide +kernel
theorem dX3_init_20 : decode cX3_init 20 = .ok (.putfield 18, 3) := by decide +kernel
theorem dX3_init_23 : decode cX3_init 23 = .ok (.return_, 1) := by decide +kernel
def wX3 (y : Cy) (b : Nat → Nat) : va_W := (((b 0), .inr (3, [.ref (b 1), .ref (b 11), .int 0, .int 0])) :: ((wX1 y (fun i => b (1 + i))) ++ [((b 11), .inl (y.2.2 1, (60, .inl (fun _ => 0))))]))
abbrev rX3_init : Room := { frames := 2, cells := 11, slots := 626, locals := 32 }
set_option maxRecDepth 20000 in
theorem i_X3 (l : Launch) (y : Cy) : CI l y yX3_init cX3_init 1 rX3_init 3 [.null, .null, .int 0, .int 0] (wX3 y) := by
  refine CI_of (by decide) (by decide) (fun x h0 sz hxl h hnm hlk hret hQ hAe => ?_)
  refine GC_aload_n (pc := 0) h dX3_init_0 rfl 0 rfl ?_
  refine GC_obj (pc := 1) h ol_X3_3 oi_inst oi_code dX3_init_1 (Nat.le_of_ble_eq_true rfl) (Nat.le_of_ble_eq_true rfl) ?_
  refine GC_aload_n (pc := 4) h dX3_init_4 rfl 0 rfl ?_
  refine GC_new (pc := 5) h ln_X3_9 df_X1 (Nat.le_of_ble_eq_true rfl) (Nat.le_of_ble_eq_true rfl) dX3_init_5 (fun q1 => ?_)
  refine GC_dup (pc := 8) h dX3_init_8 rfl ?_
  refine GC_call (pc := 9) h li_X3_11 (i_X1 x.1.2.1 y) (Nat.le_of_ble_eq_true rfl) ⟨Nat.le_of_ble_eq_true rfl, Nat.le_of_ble_eq_true rfl⟩ ⟨Nat.le_of_ble_eq_true rfl, Nat.le_of_ble_eq_true rfl⟩ [(h0, .inr (3, [.null, .null, .int 0, .int 0]))] rfl dX3_init_9 (fun b1 hb1 => ?_)
  subst hb1
  refine GC_putF (pc := 12) h (hnm.resolve_right (fun e => e rfl)) 0 ((h0, .inr (3, [.ref (b1 0), .null, .int 0, .int 0])) :: (wX1 y b1)) ff_X3_12 rfl rfl rfl (Nat.le_of_ble_eq_true rfl) rfl dX3_init_12 ?_
  refine GC_aload_n (pc := 15) h dX3_init_15 rfl 0 rfl ?_
  refine GC_bipush (pc := 16) (v := (60)) h dX3_init_16 (by decide) ?_
  refine GC_newa (pc := 18) (at_ := .boolean) (ty := .boolean) h 1 rfl ac_boolean rfl (fun _ _ z => z) (N' := 60) (fun _ => rfl) (by decide) (by decide) (Nat.le_of_ble_eq_true rfl) (Nat.le_of_ble_eq_true rfl) (Nat.le_of_ble_eq_true rfl) dX3_init_18 (fun q2 => ?_)
  refine GC_putF (pc := 20) h (hnm.resolve_right (fun e => e rfl)) 0 ((h0, .inr (3, [.ref (b1 0), .ref q2, .int 0, .int 0])) :: ((wX1 y b1) ++ [(q2, .inl (y.2.2 1, (60, .inl (fun _ => 0))))])) ff_X3_18 rfl rfl rfl (Nat.le_of_ble_eq_true rfl) rfl dX3_init_20 ?_
  exact GC_ret (pc := 23) (Wr := wX3 y) h hlk hret hQ hAe (fun i => if i < 1 then h0 else if i < 11 then b1 (i - 1) else q2) rfl rfl rfl rfl dX3_init_23
theorem dX6_init_0 : decode cX6_init 0 = .ok (.aload_n 0, 1) := by decide +kernel
theorem dX6_init_1 : decode cX6_init 1 = .ok (.invokespecial 3, 3) := by decide +kernel
theorem dX6_init_4 : decode cX6_init 4 = .ok (.aload_n 0, 1) := by decide +kernel
theorem dX6_init_5 : decode cX6_init 5 = .ok (.bipush 60, 2) := by decide +kernel
theorem dX6_init_7 : decode cX6_init 7 = .ok (.newarray .char, 2) := by decide +kernel
theorem dX6_init_9 : decode cX6_init 9 = .ok (.putfield 9, 3) := by decide +kernel
theorem dX6_init_12 : decode cX6_init 12 = .ok (.aload_n 0, 1) := by decide +kernel
theorem dX6_init_13 : decode cX6_init 13 = .ok (.bipush 10, 2) := by decide +kernel
theorem dX6_init_15 : decode cX6_init 15 = .ok (.newarray .int, 2) := by decide +kernel
theorem dX6_init_17 : decode cX6_init 17 = .ok (.putfield 15, 3) := by decide +kernel
theorem dX6_init_20 : decode cX6_init 20 = .ok (.aload_n 0, 1) := by decide +kernel
theorem dX6_init_21 : decode cX6_init 21 = .ok (.bipush 10, 2) := by decide +kernel
theorem dX6_init_23 : decode cX6_init 23 = .ok (.newarray .int, 2) := by decide +kernel
theorem dX6_init_25 : decode cX6_init 25 = .ok (.putfield 19, 3) := by decide +kernel
theorem dX6_init_28 : decode cX6_init 28 = .ok (.aload_n 0, 1) := by decide +kernel
theorem dX6_init_29 : decode cX6_init 29 = .ok (.bipush 10, 2) := by decide +kernel
theorem dX6_init_31 : decode cX6_init 31 = .ok (.newarray .int, 2) := by decide +kernel
theorem dX6_init_33 : decode cX6_init 33 = .ok (.putfield 22, 3) := by decide +kernel
theorem dX6_init_36 : decode cX6_init 36 = .ok (.return_, 1) := by decide +kernel
def wX6 (y : Cy) (b : Nat → Nat) : va_W := [((b 0), .inr (6, [.ref (b 1), .int 0, .int 0, .ref (b 2), .ref (b 3), .ref (b 4), .int 0])), ((b 1), .inl (y.2.2 2, (60, .inl (fun _ => 0)))), ((b 2), .inl (y.2.2 0, (10, .inl (fun _ => 0)))), ((b 3), .inl (y.2.2 0, (10, .inl (fun _ => 0)))), ((b 4), .inl (y.2.2 0, (10, .inl (fun _ => 0))))]
abbrev rX6_init : Room := { frames := 1, cells := 4, slots := 90, locals := 12 }
set_option maxRecDepth 20000 in
theorem i_X6 (l : Launch) (y : Cy) : CI l y yX6_init cX6_init 1 rX6_init 6 [.null, .int 0, .int 0, .null, .null, .null, .int 0] (wX6 y) := by
  refine CI_of (by decide) (by decide) (fun x h0 sz hxl h hnm hlk hret hQ hAe => ?_)
  refine GC_aload_n (pc := 0) h dX6_init_0 rfl 0 rfl ?_
  refine GC_obj (pc := 1) h ol_X6_3 oi_inst oi_code dX6_init_1 (Nat.le_of_ble_eq_true rfl) (Nat.le_of_ble_eq_true rfl) ?_
  refine GC_aload_n (pc := 4) h dX6_init_4 rfl 0 rfl ?_
  refine GC_bipush (pc := 5) (v := (60)) h dX6_init_5 (by decide) ?_
  refine GC_newa (pc := 7) (at_ := .char) (ty := .char) h 2 rfl ac_char rfl (fun _ _ z => z) (N' := 60) (fun _ => rfl) (by decide) (by decide) (Nat.le_of_ble_eq_true rfl) (Nat.le_of_ble_eq_true rfl) (Nat.le_of_ble_eq_true rfl) dX6_init_7 (fun q1 => ?_)
  refine GC_putF (pc := 9) h (hnm.resolve_right (fun e => e rfl)) 0 [(h0, .inr (6, [.ref q1, .int 0, .int 0, .null, .null, .null, .int 0])), (q1, .inl (y.2.2 2, (60, .inl (fun _ => 0))))] ff_X6_9 rfl rfl rfl (Nat.le_of_ble_eq_true rfl) rfl dX6_init_9 ?_
  refine GC_aload_n (pc := 12) h dX6_init_12 rfl 0 rfl ?_
  refine GC_bipush (pc := 13) (v := (10)) h dX6_init_13 (by decide) ?_
  refine GC_newa (pc := 15) (at_ := .int) (ty := .int) h 0 rfl ac_int rfl (fun _ _ z => z) (N' := 10) (fun _ => rfl) (by decide) (by decide) (Nat.le_of_ble_eq_true rfl) (Nat.le_of_ble_eq_true rfl) (Nat.le_of_ble_eq_true rfl) dX6_init_15 (fun q2 => ?_)
  refine GC_putF (pc := 17) h (hnm.resolve_right (fun e => e rfl)) 0 [(h0, .inr (6, [.ref q1, .int 0, .int 0, .ref q2, .null, .null, .int 0])), (q1, .inl (y.2.2 2, (60, .inl (fun _ => 0)))), (q2, .inl (y.2.2 0, (10, .inl (fun _ => 0))))] ff_X6_15 rfl rfl rfl (Nat.le_of_ble_eq_true rfl) rfl dX6_init_17 ?_
  refine GC_aload_n (pc := 20) h dX6_init_20 rfl 0 rfl ?_
  refine GC_bipush (pc := 21) (v := (10)) h dX6_init_21 (by decide) ?_
  refine GC_newa (pc := 23) (at_ := .int) (ty := .int) h 0 rfl ac_int rfl (fun _ _ z => z) (N' := 10) (fun _ => rfl) (by decide) (by decide) (Nat.le_of_ble_eq_true rfl) (Nat.le_of_ble_eq_true rfl) (Nat.le_of_ble_eq_true rfl) dX6_init_23 (fun q3 => ?_)
  refine GC_putF (pc := 25) h (hnm.resolve_right (fun e => e rfl)) 0 [(h0, .inr (6, [.ref q1, .int 0, .int 0, .ref q2, .ref q3, .null, .int 0])), (q1, .inl (y.2.2 2, (60, .inl (fun _ => 0)))), (q2, .inl (y.2.2 0, (10, .inl (fun _ => 0)))), (q3, .inl (y.2.2 0, (10, .inl (fun _ => 0))))] ff_X6_19 rfl rfl rfl (Nat.le_of_ble_eq_true rfl) rfl dX6_init_25 ?_
  refine GC_aload_n (pc := 28) h dX6_init_28 rfl 0 rfl ?_
  refine GC_bipush (pc := 29) (v := (10)) h dX6_init_29 (by decide) ?_
  refine GC_newa (pc := 31) (at_ := .int) (ty := .int) h 0 rfl ac_int rfl (fun _ _ z => z) (N' := 10) (fun _ => rfl) (by decide) (by decide) (Nat.le_of_ble_eq_true rfl) (Nat.le_of_ble_eq_true rfl) (Nat.le_of_ble_eq_true rfl) dX6_init_31 (fun q4 => ?_)
  refine GC_putF (pc := 33) h (hnm.resolve_right (fun e => e rfl)) 0 [(h0, .inr (6, [.ref q1, .int 0, .int 0, .ref q2, .ref q3, .ref q4, .int 0])), (q1, .inl (y.2.2 2, (60, .inl (fun _ => 0)))), (q2, .inl (y.2.2 0, (10, .inl (fun _ => 0)))), (q3, .inl (y.2.2 0, (10, .inl (fun _ => 0)))), (q4, .inl (y.2.2 0, (10, .inl (fun _ => 0))))] ff_X6_22 rfl rfl rfl (Nat.le_of_ble_eq_true rfl) rfl dX6_init_33 ?_
  exact GC_ret (pc := 36) (Wr := wX6 y) h hlk hret hQ hAe (fun i => if i < 1 then h0 else if i < 2 then q1 else if i < 3 then q2 else if i < 4 then q3 else q4) rfl rfl rfl rfl dX6_init_36
theorem dX8_init_0 : decode cX8_init 0 = .ok (.aload_n 0, 1) := by decide +kernel
theorem dX8_init_1 : decode cX8_init 1 = .ok (.invokespecial 3, 3) := by decide +kernel
theorem dX8_init_4 : decode cX8_init 4 = .ok (.aload_n 0, 1) := by decide +kernel
theorem dX8_init_5 : decode cX8_init 5 = .ok (.new 9, 3) := by decide +kernel
theorem dX8_init_8 : decode cX8_init 8 = .ok (.dup, 1) := by decide +kernel
theorem dX8_init_9 : decode cX8_init 9 = .ok (.invokespecial 11, 3) := by decide +kernel
theorem dX8_init_12 : decode cX8_init 12 = .ok (.putfield 12, 3) := by decide +kernel
theorem dX8_init_15 : decode cX8_init 15 = .ok (.aload_n 0, 1) := by decide +kernel
theorem dX8_init_16 : decode cX8_init 16 = .ok (.new 9, 3) := by decide +kernel
theorem dX8_init_19 : decode cX8_init 19 = .ok (.dup, 1) := by decide +kernel
theorem dX8_init_20 : decode cX8_init 20 = .ok (.invokespecial 11, 3) := by decide +kernel
theorem dX8_init_23 : decode cX8_init 23 = .ok (.putfield 16, 3) := by decide +kernel
theorem dX8_init_26 : decode cX8_init 26 = .ok (.aload_n 0, 1) := by decide +kernel
theorem dX8_init_27 : decode cX8_init 27 = .ok (.new 9, 3) := by decide +kernel
theorem dX8_init_30 : decode cX8_init 30 = .ok (.dup, 1) := by decide +kernel
theorem dX8_init_31 : decode cX8_init 31 = .ok (.invokespecial 11, 3) := by decide +kernel
theorem dX8_init_34 : decode cX8_init 34 = .ok (.putfield 19, 3) := by decide +kernel
theorem dX8_init_37 : decode cX8_init 37 = .ok (.aload_n 0, 1) := by decide +kernel
theorem dX8_init_38 : decode cX8_init 38 = .ok (.iconst 0, 1) := by decide +kernel
theorem dX8_init_39 : decode cX8_init 39 = .ok (.putfield 22, 3) := by decide +kernel
theorem dX8_init_42 : decode cX8_init 42 = .ok (.aload_n 0, 1) := by decide +kernel
theorem dX8_init_43 : decode cX8_init 43 = .ok (.new 26, 3) := by decide +kernel
theorem dX8_init_46 : decode cX8_init 46 = .ok (.dup, 1) := by decide +kernel
theorem dX8_init_47 : decode cX8_init 47 = .ok (.invokespecial 28, 3) := by decide +kernel
theorem dX8_init_50 : decode cX8_init 50 = .ok (.putfield 29, 3) := by decide +kernel
theorem dX8_init_53 : decode cX8_init 53 = .ok (.aload_n 0, 1) := by decide +kernel
theorem dX8_init_54 : decode cX8_init 54 = .ok (.new 33, 3) := by decide +kernel
theorem dX8_init_57 : decode cX8_init 57 = .ok (.dup, 1) := by decide +kernel
theorem dX8_init_58 : decode cX8_init 58 = .ok (.invokespecial 35, 3) := by decide +kernel
theorem dX8_init_61 : decode cX8_init 61 = .ok (.putfield 36, 3) := by decide +kernel
theorem dX8_init_64 : decode cX8_init 64 = .ok (.aload_n 0, 1) := by decide +kernel
theorem dX8_init_65 : decode cX8_init 65 = .ok (.new 40, 3) := by decide +kernel
theorem dX8_init_68 : decode cX8_init 68 = .ok (.dup, 1) := by decide +kernel
theorem dX8_init_69 : decode cX8_init 69 = .ok (.invokespecial 42, 3) := by decide +kernel
theorem dX8_init_72 : decode cX8_init 72 = .ok (.putfield 43, 3) := by decide +kernel
theorem dX8_init_75 : decode cX8_init 75 = .ok (.aload_n 0, 1) := by decide +kernel
theorem dX8_init_76 : decode cX8_init 76 = .ok (.new 47, 3) := by decide +kernel
theorem dX8_init_79 : decode cX8_init 79 = .ok (.dup, 1) := by decide +kernel
theorem dX8_init_80 : decode cX8_init 80 = .ok (.invokespecial 49, 3) := by decide +kernel
theorem dX8_init_83 : decode cX8_init 83 = .ok (.putfield 50, 3) := by decide +kernel
theorem dX8_init_86 : decode cX8_init 86 = .ok (.aload_n 0, 1) := by decide +kernel
theorem dX8_init_87 : decode cX8_init 87 = .ok (.bipush 60, 2) := by decide +kernel
theorem dX8_init_89 : decode cX8_init 89 = .ok (.newarray .boolean, 2) := by decide +kernel
theorem dX8_init_91 : decode cX8_init 91 = .ok (.putfield 54, 3) := by decide +kernel
theorem dX8_init_94 : decode cX8_init 94 = .ok (.return_, 1) := by decide +kernel
def wX8 (y : Cy) (b : Nat → Nat) : va_W := (((b 0), .inr (8, [.ref (b 1), .ref (b 17), .ref (b 33), .int (0 : Int32), .ref (b 49), .ref (b 115), .ref (b 120), .ref (b 130), .ref (b 142)])) :: ((((((((wX5 y (fun i => b (1 + i))) ++ wX5 y (fun i => b (17 + i))) ++ wX5 y (fun i => b (33 + i))) ++ wX2 y (fun i => b (49 + i))) ++ wX6 y (fun i => b (115 + i))) ++ wX1 y (fun i => b (120 + i))) ++ wX3 y (fun i => b (130 + i))) ++ [((b 142), .inl (y.2.2 1, (60, .inl (fun _ => 0))))]))
abbrev rX8_init : Room := { frames := 4, cells := 142, slots := 4026, locals := 73 }
set_option maxRecDepth 20000 in
theorem i_X8 (l : Launch) (y : Cy) : CI l y yX8_init cX8_init 1 rX8_init 8 [.null, .null, .null, .int 0, .null, .null, .null, .null, .null] (wX8 y) := by
  refine CI_of (by decide) (by decide) (fun x h0 sz hxl h hnm hlk hret hQ hAe => ?_)
  refine GC_aload_n (pc := 0) h dX8_init_0 rfl 0 rfl ?_
  refine GC_obj (pc := 1) h ol_X8_3 oi_inst oi_code dX8_init_1 (Nat.le_of_ble_eq_true rfl) (Nat.le_of_ble_eq_true rfl) ?_
  refine GC_aload_n (pc := 4) h dX8_init_4 rfl 0 rfl ?_
  refine GC_new (pc := 5) h ln_X8_9 df_X5 (Nat.le_of_ble_eq_true rfl) (Nat.le_of_ble_eq_true rfl) dX8_init_5 (fun q1 => ?_)
  refine GC_dup (pc := 8) h dX8_init_8 rfl ?_
  refine GC_call (pc := 9) h li_X8_11 (i_X5 x.1.2.1 y) (Nat.le_of_ble_eq_true rfl) ⟨Nat.le_of_ble_eq_true rfl, Nat.le_of_ble_eq_true rfl⟩ ⟨Nat.le_of_ble_eq_true rfl, Nat.le_of_ble_eq_true rfl⟩ [(h0, .inr (8, [.null, .null, .null, .int 0, .null, .null, .null, .null, .null]))] rfl dX8_init_9 (fun b1 hb1 => ?_)
  subst hb1
  refine GC_putF (pc := 12) h (hnm.resolve_right (fun e => e rfl)) 0 ((h0, .inr (8, [.ref (b1 0), .null, .null, .int 0, .null, .null, .null, .null, .null])) :: (wX5 y b1)) ff_X8_12 rfl rfl rfl (Nat.le_of_ble_eq_true rfl) rfl dX8_init_12 ?_
  refine GC_aload_n (pc := 15) h dX8_init_15 rfl 0 rfl ?_
  refine GC_new (pc := 16) h ln_X8_9 df_X5 (Nat.le_of_ble_eq_true rfl) (Nat.le_of_ble_eq_true rfl) dX8_init_16 (fun q2 => ?_)
  refine GC_dup (pc := 19) h dX8_init_19 rfl ?_
  refine GC_call (pc := 20) h li_X8_11 (i_X5 x.1.2.1 y) (Nat.le_of_ble_eq_true rfl) ⟨Nat.le_of_ble_eq_true rfl, Nat.le_of_ble_eq_true rfl⟩ ⟨Nat.le_of_ble_eq_true rfl, Nat.le_of_ble_eq_true rfl⟩ ((h0, .inr (8, [.ref (b1 0), .null, .null, .int 0, .null, .null, .null, .null, .null])) :: (wX5 y b1)) rfl dX8_init_20 (fun b2 hb2 => ?_)
  subst hb2
  refine GC_putF (pc := 23) h (hnm.resolve_right (fun e => e rfl)) 0 ((h0, .inr (8, [.ref (b1 0), .ref (b2 0), .null, .int 0, .null, .null, .null, .null, .null])) :: ((wX5 y b1) ++ wX5 y b2)) ff_X8_16 rfl rfl rfl (Nat.le_of_ble_eq_true rfl) rfl dX8_init_23 ?_
  refine GC_aload_n (pc := 26) h dX8_init_26 rfl 0 rfl ?_
  refine GC_new (pc := 27) h ln_X8_9 df_X5 (Nat.le_of_ble_eq_true rfl) (Nat.le_of_ble_eq_true rfl) dX8_init_27 (fun q3 => ?_)
  refine GC_dup (pc := 30) h dX8_init_30 rfl ?_
  refine GC_call (pc := 31) h li_X8_11 (i_X5 x.1.2.1 y) (Nat.le_of_ble_eq_true rfl) ⟨Nat.le_of_ble_eq_true rfl, Nat.le_of_ble_eq_true rfl⟩ ⟨Nat.le_of_ble_eq_true rfl, Nat.le_of_ble_eq_true rfl⟩ ((h0, .inr (8, [.ref (b1 0), .ref (b2 0), .null, .int 0, .null, .null, .null, .null, .null])) :: ((wX5 y b1) ++ wX5 y b2)) rfl dX8_init_31 (fun b3 hb3 => ?_)
  subst hb3
  refine GC_putF (pc := 34) h (hnm.resolve_right (fun e => e rfl)) 0 ((h0, .inr (8, [.ref (b1 0), .ref (b2 0), .ref (b3 0), .int 0, .null, .null, .null, .null, .null])) :: (((wX5 y b1) ++ wX5 y b2) ++ wX5 y b3)) ff_X8_19 rfl rfl rfl (Nat.le_of_ble_eq_true rfl) rfl dX8_init_34 ?_
  refine GC_aload_n (pc := 37) h dX8_init_37 rfl 0 rfl ?_
  refine GC_iconst (pc := 38) (v := (0)) h dX8_init_38 (by decide) ?_
  refine GC_put (pc := 39) h 0 ((h0, .inr (8, [.ref (b1 0), .ref (b2 0), .ref (b3 0), .int (0 : Int32), .null, .null, .null, .null, .null])) :: (((wX5 y b1) ++ wX5 y b2) ++ wX5 y b3)) fp_X8_22 rfl rfl rfl (Nat.le_of_ble_eq_true rfl) rfl dX8_init_39 ?_
  refine GC_aload_n (pc := 42) h dX8_init_42 rfl 0 rfl ?_
  refine GC_new (pc := 43) h ln_X8_26 df_X2 (Nat.le_of_ble_eq_true rfl) (Nat.le_of_ble_eq_true rfl) dX8_init_43 (fun q4 => ?_)
  refine GC_dup (pc := 46) h dX8_init_46 rfl ?_
  refine GC_call (pc := 47) h li_X8_28 (i_X2 x.1.2.1 y) (Nat.le_of_ble_eq_true rfl) ⟨Nat.le_of_ble_eq_true rfl, Nat.le_of_ble_eq_true rfl⟩ ⟨Nat.le_of_ble_eq_true rfl, Nat.le_of_ble_eq_true rfl⟩ ((h0, .inr (8, [.ref (b1 0), .ref (b2 0), .ref (b3 0), .int (0 : Int32), .null, .null, .null, .null, .null])) :: (((wX5 y b1) ++ wX5 y b2) ++ wX5 y b3)) rfl dX8_init_47 (fun b4 hb4 => ?_)
  subst hb4
  refine GC_putF (pc := 50) h (hnm.resolve_right (fun e => e rfl)) 0 ((h0, .inr (8, [.ref (b1 0), .ref (b2 0), .ref (b3 0), .int (0 : Int32), .ref (b4 0), .null, .null, .null, .null])) :: ((((wX5 y b1) ++ wX5 y b2) ++ wX5 y b3) ++ wX2 y b4)) ff_X8_29 rfl rfl rfl (Nat.le_of_ble_eq_true rfl) rfl dX8_init_50 ?_
  refine GC_aload_n (pc := 53) h dX8_init_53 rfl 0 rfl ?_
  refine GC_new (pc := 54) h ln_X8_33 df_X6 (Nat.le_of_ble_eq_true rfl) (Nat.le_of_ble_eq_true rfl) dX8_init_54 (fun q5 => ?_)
  refine GC_dup (pc := 57) h dX8_init_57 rfl ?_
  refine GC_call (pc := 58) h li_X8_35 (i_X6 x.1.2.1 y) (Nat.le_of_ble_eq_true rfl) ⟨Nat.le_of_ble_eq_true rfl, Nat.le_of_ble_eq_true rfl⟩ ⟨Nat.le_of_ble_eq_true rfl, Nat.le_of_ble_eq_true rfl⟩ ((h0, .inr (8, [.ref (b1 0), .ref (b2 0), .ref (b3 0), .int (0 : Int32), .ref (b4 0), .null, .null, .null, .null])) :: ((((wX5 y b1) ++ wX5 y b2) ++ wX5 y b3) ++ wX2 y b4)) rfl dX8_init_58 (fun b5 hb5 => ?_)
  subst hb5
  refine GC_putF (pc := 61) h (hnm.resolve_right (fun e => e rfl)) 0 ((h0, .inr (8, [.ref (b1 0), .ref (b2 0), .ref (b3 0), .int (0 : Int32), .ref (b4 0), .ref (b5 0), .null, .null, .null])) :: (((((wX5 y b1) ++ wX5 y b2) ++ wX5 y b3) ++ wX2 y b4) ++ wX6 y b5)) ff_X8_36 rfl rfl rfl (Nat.le_of_ble_eq_true rfl) rfl dX8_init_61 ?_
  refine GC_aload_n (pc := 64) h dX8_init_64 rfl 0 rfl ?_
  refine GC_new (pc := 65) h ln_X8_40 df_X1 (Nat.le_of_ble_eq_true rfl) (Nat.le_of_ble_eq_true rfl) dX8_init_65 (fun q6 => ?_)
  refine GC_dup (pc := 68) h dX8_init_68 rfl ?_
  refine GC_call (pc := 69) h li_X8_42 (i_X1 x.1.2.1 y) (Nat.le_of_ble_eq_true rfl) ⟨Nat.le_of_ble_eq_true rfl, Nat.le_of_ble_eq_true rfl⟩ ⟨Nat.le_of_ble_eq_true rfl, Nat.le_of_ble_eq_true rfl⟩ ((h0, .inr (8, [.ref (b1 0), .ref (b2 0), .ref (b3 0), .int (0 : Int32), .ref (b4 0), .ref (b5 0), .null, .null, .null])) :: (((((wX5 y b1) ++ wX5 y b2) ++ wX5 y b3) ++ wX2 y b4) ++ wX6 y b5)) rfl dX8_init_69 (fun b6 hb6 => ?_)
  subst hb6
  refine GC_putF (pc := 72) h (hnm.resolve_right (fun e => e rfl)) 0 ((h0, .inr (8, [.ref (b1 0), .ref (b2 0), .ref (b3 0), .int (0 : Int32), .ref (b4 0), .ref (b5 0), .ref (b6 0), .null, .null])) :: ((((((wX5 y b1) ++ wX5 y b2) ++ wX5 y b3) ++ wX2 y b4) ++ wX6 y b5) ++ wX1 y b6)) ff_X8_43 rfl rfl rfl (Nat.le_of_ble_eq_true rfl) rfl dX8_init_72 ?_
  refine GC_aload_n (pc := 75) h dX8_init_75 rfl 0 rfl ?_
  refine GC_new (pc := 76) h ln_X8_47 df_X3 (Nat.le_of_ble_eq_true rfl) (Nat.le_of_ble_eq_true rfl) dX8_init_76 (fun q7 => ?_)
  refine GC_dup (pc := 79) h dX8_init_79 rfl ?_
  refine GC_call (pc := 80) h li_X8_49 (i_X3 x.1.2.1 y) (Nat.le_of_ble_eq_true rfl) ⟨Nat.le_of_ble_eq_true rfl, Nat.le_of_ble_eq_true rfl⟩ ⟨Nat.le_of_ble_eq_true rfl, Nat.le_of_ble_eq_true rfl⟩ ((h0, .inr (8, [.ref (b1 0), .ref (b2 0), .ref (b3 0), .int (0 : Int32), .ref (b4 0), .ref (b5 0), .ref (b6 0), .null, .null])) :: ((((((wX5 y b1) ++ wX5 y b2) ++ wX5 y b3) ++ wX2 y b4) ++ wX6 y b5) ++ wX1 y b6)) rfl dX8_init_80 (fun b7 hb7 => ?_)
  subst hb7
  refine GC_putF (pc := 83) h (hnm.resolve_right (fun e => e rfl)) 0 ((h0, .inr (8, [.ref (b1 0), .ref (b2 0), .ref (b3 0), .int (0 : Int32), .ref (b4 0), .ref (b5 0), .ref (b6 0), .ref (b7 0), .null])) :: (((((((wX5 y b1) ++ wX5 y b2) ++ wX5 y b3) ++ wX2 y b4) ++ wX6 y b5) ++ wX1 y b6) ++ wX3 y b7)) ff_X8_50 rfl rfl rfl (Nat.le_of_ble_eq_true rfl) rfl dX8_init_83 ?_
  refine GC_aload_n (pc := 86) h dX8_init_86 rfl 0 rfl ?_
  refine GC_bipush (pc := 87) (v := (60)) h dX8_init_87 (by decide) ?_
  refine GC_newa (pc := 89) (at_ := .boolean) (ty := .boolean) h 1 rfl ac_boolean rfl (fun _ _ z => z) (N' := 60) (fun _ => rfl) (by decide) (by decide) (Nat.le_of_ble_eq_true rfl) (Nat.le_of_ble_eq_true rfl) (Nat.le_of_ble_eq_true rfl) dX8_init_89 (fun q8 => ?_)
  refine GC_putF (pc := 91) h (hnm.resolve_right (fun e => e rfl)) 0 ((h0, .inr (8, [.ref (b1 0), .ref (b2 0), .ref (b3 0), .int (0 : Int32), .ref (b4 0), .ref (b5 0), .ref (b6 0), .ref (b7 0), .ref q8])) :: ((((((((wX5 y b1) ++ wX5 y b2) ++ wX5 y b3) ++ wX2 y b4) ++ wX6 y b5) ++ wX1 y b6) ++ wX3 y b7) ++ [(q8, .inl (y.2.2 1, (60, .inl (fun _ => 0))))])) ff_X8_54 rfl rfl rfl (Nat.le_of_ble_eq_true rfl) rfl dX8_init_91 ?_
  exact GC_ret (pc := 94) (Wr := wX8 y) h hlk hret hQ hAe (fun i => if i < 1 then h0 else if i < 17 then b1 (i - 1) else if i < 33 then b2 (i - 17) else if i < 49 then b3 (i - 33) else if i < 115 then b4 (i - 49) else if i < 120 then b5 (i - 115) else if i < 130 then b6 (i - 120) else if i < 142 then b7 (i - 130) else q8) rfl rfl rfl rfl dX8_init_94
theorem dX9_init_0 : decode cX9_init 0 = .ok (.aload_n 0, 1) := by decide +kernel
theorem dX9_init_1 : decode cX9_init 1 = .ok (.invokespecial 1, 3) := by decide +kernel
theorem dX9_init_4 : decode cX9_init 4 = .ok (.aload_n 0, 1) := by decide +kernel
theorem dX9_init_5 : decode cX9_init 5 = .ok (.sipush 366, 3) := by decide +kernel
theorem dX9_init_8 : decode cX9_init 8 = .ok (.newarray .int, 2) := by decide +kernel
theorem dX9_init_10 : decode cX9_init 10 = .ok (.putfield 7, 3) := by decide +kernel
theorem dX9_init_13 : decode cX9_init 13 = .ok (.aload_n 0, 1) := by decide +kernel
theorem dX9_init_14 : decode cX9_init 14 = .ok (.sipush 1464, 3) := by decide +kernel
theorem dX9_init_17 : decode cX9_init 17 = .ok (.newarray .int, 2) := by decide +kernel
theorem dX9_init_19 : decode cX9_init 19 = .ok (.putfield 13, 3) := by decide +kernel
theorem dX9_init_22 : decode cX9_init 22 = .ok (.aload_n 0, 1) := by decide +kernel
theorem dX9_init_23 : decode cX9_init 23 = .ok (.sipush 366, 3) := by decide +kernel
theorem dX9_init_26 : decode cX9_init 26 = .ok (.newarray .int, 2) := by decide +kernel
theorem dX9_init_28 : decode cX9_init 28 = .ok (.putfield 16, 3) := by decide +kernel
theorem dX9_init_31 : decode cX9_init 31 = .ok (.aload_n 0, 1) := by decide +kernel
theorem dX9_init_32 : decode cX9_init 32 = .ok (.sipush 366, 3) := by decide +kernel
theorem dX9_init_35 : decode cX9_init 35 = .ok (.newarray .int, 2) := by decide +kernel
theorem dX9_init_37 : decode cX9_init 37 = .ok (.putfield 19, 3) := by decide +kernel
theorem dX9_init_40 : decode cX9_init 40 = .ok (.aload_n 0, 1) := by decide +kernel
theorem dX9_init_41 : decode cX9_init 41 = .ok (.bipush 61, 2) := by decide +kernel
theorem dX9_init_43 : decode cX9_init 43 = .ok (.newarray .int, 2) := by decide +kernel
theorem dX9_init_45 : decode cX9_init 45 = .ok (.putfield 22, 3) := by decide +kernel
theorem dX9_init_48 : decode cX9_init 48 = .ok (.aload_n 0, 1) := by decide +kernel
theorem dX9_init_49 : decode cX9_init 49 = .ok (.bipush 61, 2) := by decide +kernel
theorem dX9_init_51 : decode cX9_init 51 = .ok (.newarray .int, 2) := by decide +kernel
theorem dX9_init_53 : decode cX9_init 53 = .ok (.putfield 25, 3) := by decide +kernel
theorem dX9_init_56 : decode cX9_init 56 = .ok (.aload_n 0, 1) := by decide +kernel
theorem dX9_init_57 : decode cX9_init 57 = .ok (.bipush 61, 2) := by decide +kernel
theorem dX9_init_59 : decode cX9_init 59 = .ok (.newarray .int, 2) := by decide +kernel
theorem dX9_init_61 : decode cX9_init 61 = .ok (.putfield 28, 3) := by decide +kernel
theorem dX9_init_64 : decode cX9_init 64 = .ok (.aload_n 0, 1) := by decide +kernel
theorem dX9_init_65 : decode cX9_init 65 = .ok (.bipush 61, 2) := by decide +kernel
theorem dX9_init_67 : decode cX9_init 67 = .ok (.newarray .int, 2) := by decide +kernel
theorem dX9_init_69 : decode cX9_init 69 = .ok (.putfield 31, 3) := by decide +kernel
theorem dX9_init_72 : decode cX9_init 72 = .ok (.aload_n 0, 1) := by decide +kernel
theorem dX9_init_73 : decode cX9_init 73 = .ok (.iconst (-1), 1) := by decide +kernel
theorem dX9_init_74 : decode cX9_init 74 = .ok (.putfield 34, 3) := by decide +kernel
theorem dX9_init_77 : decode cX9_init 77 = .ok (.aload_n 0, 1) := by decide +kernel
theorem dX9_init_78 : decode cX9_init 78 = .ok (.iconst (-1), 1) := by decide +kernel
theorem dX9_init_79 : decode cX9_init 79 = .ok (.putfield 38, 3) := by decide +kernel
theorem dX9_init_82 : decode cX9_init 82 = .ok (.aload_n 0, 1) := by decide +kernel
theorem dX9_init_83 : decode cX9_init 83 = .ok (.iconst (-1), 1) := by decide +kernel
theorem dX9_init_84 : decode cX9_init 84 = .ok (.putfield 41, 3) := by decide +kernel
theorem dX9_init_87 : decode cX9_init 87 = .ok (.aload_n 0, 1) := by decide +kernel
theorem dX9_init_88 : decode cX9_init 88 = .ok (.bipush 60, 2) := by decide +kernel
theorem dX9_init_90 : decode cX9_init 90 = .ok (.newarray .boolean, 2) := by decide +kernel
theorem dX9_init_92 : decode cX9_init 92 = .ok (.putfield 44, 3) := by decide +kernel
theorem dX9_init_95 : decode cX9_init 95 = .ok (.aload_n 0, 1) := by decide +kernel
theorem dX9_init_96 : decode cX9_init 96 = .ok (.bipush 60, 2) := by decide +kernel
theorem dX9_init_98 : decode cX9_init 98 = .ok (.newarray .char, 2) := by decide +kernel
theorem dX9_init_100 : decode cX9_init 100 = .ok (.putfield 48, 3) := by decide +kernel
theorem dX9_init_103 : decode cX9_init 103 = .ok (.aload_n 0, 1) := by decide +kernel
theorem dX9_init_104 : decode cX9_init 104 = .ok (.getfield 7, 3) := by decide +kernel
theorem dX9_init_107 : decode cX9_init 107 = .ok (.iconst 1, 1) := by decide +kernel
theorem dX9_init_108 : decode cX9_init 108 = .ok (.sipush 900, 3) := by decide +kernel
theorem dX9_init_111 : decode cX9_init 111 = .ok (.iastore, 1) := by decide +kernel
theorem dX9_init_112 : decode cX9_init 112 = .ok (.aload_n 0, 1) := by decide +kernel
theorem dX9_init_113 : decode cX9_init 113 = .ok (.getfield 7, 3) := by decide +kernel
theorem dX9_init_116 : decode cX9_init 116 = .ok (.iconst 2, 1) := by decide +kernel
theorem dX9_init_117 : decode cX9_init 117 = .ok (.sipush 1500, 3) := by decide +kernel
theorem dX9_init_120 : decode cX9_init 120 = .ok (.iastore, 1) := by decide +kernel
theorem dX9_init_121 : decode cX9_init 121 = .ok (.aload_n 0, 1) := by decide +kernel
theorem dX9_init_122 : decode cX9_init 122 = .ok (.getfield 7, 3) := by decide +kernel
theorem dX9_init_125 : decode cX9_init 125 = .ok (.iconst 3, 1) := by decide +kernel
theorem dX9_init_126 : decode cX9_init 126 = .ok (.bipush 20, 2) := by decide +kernel
theorem dX9_init_128 : decode cX9_init 128 = .ok (.iastore, 1) := by decide +kernel
theorem dX9_init_129 : decode cX9_init 129 = .ok (.return_, 1) := by decide +kernel
def wX9 (y : Cy) (b : Nat → Nat) : va_W := [((b 0), .inr (9, [.ref (b 1), .ref (b 2), .int 0, .ref (b 3), .int 0, .ref (b 4), .ref (b 5), .ref (b 6), .ref (b 7), .ref (b 8), .int 0, .int (-1 : Int32), .int 0, .int (-1 : Int32), .int (-1 : Int32), .int 0, .int 0, .ref (b 9), .int 0, .ref (b 10), .int 0, .int 0, .int 0, .int 0])), ((b 1), .inl (y.2.2 0, (366, .inl (upd (upd (upd (fun _ => 0) 1 (900 : Int32)) 2 (1500 : Int32)) 3 (20 : Int32))))), ((b 2), .inl (y.2.2 0, (1464, .inl (fun _ => 0)))), ((b 3), .inl (y.2.2 0, (366, .inl (fun _ => 0)))), ((b 4), .inl (y.2.2 0, (366, .inl (fun _ => 0)))), ((b 5), .inl (y.2.2 0, (61, .inl (fun _ => 0)))), ((b 6), .inl (y.2.2 0, (61, .inl (fun _ => 0)))), ((b 7), .inl (y.2.2 0, (61, .inl (fun _ => 0)))), ((b 8), .inl (y.2.2 0, (61, .inl (fun _ => 0)))), ((b 9), .inl (y.2.2 1, (60, .inl (fun _ => 0)))), ((b 10), .inl (y.2.2 2, (60, .inl (fun _ => 0))))]
abbrev rX9_init : Room := { frames := 1, cells := 10, slots := 2926, locals := 12 }
set_option maxRecDepth 20000 in
theorem i_X9 (l : Launch) (y : Cy) : CI l y yX9_init cX9_init 1 rX9_init 9 [.null, .null, .int 0, .null, .int 0, .null, .null, .null, .null, .null, .int 0, .int 0, .int 0, .int 0, .int 0, .int 0, .int 0, .null, .int 0, .null, .int 0, .int 0, .int 0, .int 0] (wX9 y) := by
  refine CI_of (by decide) (by decide) (fun x h0 sz hxl h hnm hlk hret hQ hAe => ?_)
  refine GC_aload_n (pc := 0) h dX9_init_0 rfl 0 rfl ?_
  refine GC_obj (pc := 1) h ol_X9_1 oi_inst oi_code dX9_init_1 (Nat.le_of_ble_eq_true rfl) (Nat.le_of_ble_eq_true rfl) ?_
  refine GC_aload_n (pc := 4) h dX9_init_4 rfl 0 rfl ?_
  refine GC_sipush (pc := 5) (v := (366)) h dX9_init_5 (by decide) ?_
  refine GC_newa (pc := 8) (at_ := .int) (ty := .int) h 0 rfl ac_int rfl (fun _ _ z => z) (N' := 366) (fun _ => rfl) (by decide) (by decide) (Nat.le_of_ble_eq_true rfl) (Nat.le_of_ble_eq_true rfl) (Nat.le_of_ble_eq_true rfl) dX9_init_8 (fun q1 => ?_)
  refine GC_putF (pc := 10) h (hnm.resolve_right (fun e => e rfl)) 0 [(h0, .inr (9, [.ref q1, .null, .int 0, .null, .int 0, .null, .null, .null, .null, .null, .int 0, .int 0, .int 0, .int 0, .int 0, .int 0, .int 0, .null, .int 0, .null, .int 0, .int 0, .int 0, .int 0])), (q1, .inl (y.2.2 0, (366, .inl (fun _ => 0))))] ff_X9_7 rfl rfl rfl (Nat.le_of_ble_eq_true rfl) rfl dX9_init_10 ?_
  refine GC_aload_n (pc := 13) h dX9_init_13 rfl 0 rfl ?_
  refine GC_sipush (pc := 14) (v := (1464)) h dX9_init_14 (by decide) ?_
  refine GC_newa (pc := 17) (at_ := .int) (ty := .int) h 0 rfl ac_int rfl (fun _ _ z => z) (N' := 1464) (fun _ => rfl) (by decide) (by decide) (Nat.le_of_ble_eq_true rfl) (Nat.le_of_ble_eq_true rfl) (Nat.le_of_ble_eq_true rfl) dX9_init_17 (fun q2 => ?_)
  refine GC_putF (pc := 19) h (hnm.resolve_right (fun e => e rfl)) 0 [(h0, .inr (9, [.ref q1, .ref q2, .int 0, .null, .int 0, .null, .null, .null, .null, .null, .int 0, .int 0, .int 0, .int 0, .int 0, .int 0, .int 0, .null, .int 0, .null, .int 0, .int 0, .int 0, .int 0])), (q1, .inl (y.2.2 0, (366, .inl (fun _ => 0)))), (q2, .inl (y.2.2 0, (1464, .inl (fun _ => 0))))] ff_X9_13 rfl rfl rfl (Nat.le_of_ble_eq_true rfl) rfl dX9_init_19 ?_
  refine GC_aload_n (pc := 22) h dX9_init_22 rfl 0 rfl ?_
  refine GC_sipush (pc := 23) (v := (366)) h dX9_init_23 (by decide) ?_
  refine GC_newa (pc := 26) (at_ := .int) (ty := .int) h 0 rfl ac_int rfl (fun _ _ z => z) (N' := 366) (fun _ => rfl) (by decide) (by decide) (Nat.le_of_ble_eq_true rfl) (Nat.le_of_ble_eq_true rfl) (Nat.le_of_ble_eq_true rfl) dX9_init_26 (fun q3 => ?_)
  refine GC_putF (pc := 28) h (hnm.resolve_right (fun e => e rfl)) 0 [(h0, .inr (9, [.ref q1, .ref q2, .int 0, .ref q3, .int 0, .null, .null, .null, .null, .null, .int 0, .int 0, .int 0, .int 0, .int 0, .int 0, .int 0, .null, .int 0, .null, .int 0, .int 0, .int 0, .int 0])), (q1, .inl (y.2.2 0, (366, .inl (fun _ => 0)))), (q2, .inl (y.2.2 0, (1464, .inl (fun _ => 0)))), (q3, .inl (y.2.2 0, (366, .inl (fun _ => 0))))] ff_X9_16 rfl rfl rfl (Nat.le_of_ble_eq_true rfl) rfl dX9_init_28 ?_
  refine GC_aload_n (pc := 31) h dX9_init_31 rfl 0 rfl ?_
  refine GC_sipush (pc := 32) (v := (366)) h dX9_init_32 (by decide) ?_
  refine GC_newa (pc := 35) (at_ := .int) (ty := .int) h 0 rfl ac_int rfl (fun _ _ z => z) (N' := 366) (fun _ => rfl) (by decide) (by decide) (Nat.le_of_ble_eq_true rfl) (Nat.le_of_ble_eq_true rfl) (Nat.le_of_ble_eq_true rfl) dX9_init_35 (fun q4 => ?_)
  refine GC_putF (pc := 37) h (hnm.resolve_right (fun e => e rfl)) 0 [(h0, .inr (9, [.ref q1, .ref q2, .int 0, .ref q3, .int 0, .ref q4, .null, .null, .null, .null, .int 0, .int 0, .int 0, .int 0, .int 0, .int 0, .int 0, .null, .int 0, .null, .int 0, .int 0, .int 0, .int 0])), (q1, .inl (y.2.2 0, (366, .inl (fun _ => 0)))), (q2, .inl (y.2.2 0, (1464, .inl (fun _ => 0)))), (q3, .inl (y.2.2 0, (366, .inl (fun _ => 0)))), (q4, .inl (y.2.2 0, (366, .inl (fun _ => 0))))] ff_X9_19 rfl rfl rfl (Nat.le_of_ble_eq_true rfl) rfl dX9_init_37 ?_
  refine GC_aload_n (pc := 40) h dX9_init_40 rfl 0 rfl ?_
  refine GC_bipush (pc := 41) (v := (61)) h dX9_init_41 (by decide) ?_
  refine GC_newa (pc := 43) (at_ := .int) (ty := .int) h 0 rfl ac_int rfl (fun _ _ z => z) (N' := 61) (fun _ => rfl) (by decide) (by decide) (Nat.le_of_ble_eq_true rfl) (Nat.le_of_ble_eq_true rfl) (Nat.le_of_ble_eq_true rfl) dX9_init_43 (fun q5 => ?_)
  refine GC_putF (pc := 45) h (hnm.resolve_right (fun e => e rfl)) 0 [(h0, .inr (9, [.ref q1, .ref q2, .int 0, .ref q3, .int 0, .ref q4, .ref q5, .null, .null, .null, .int 0, .int 0, .int 0, .int 0, .int 0, .int 0, .int 0, .null, .int 0, .null, .int 0, .int 0, .int 0, .int 0])), (q1, .inl (y.2.2 0, (366, .inl (fun _ => 0)))), (q2, .inl (y.2.2 0, (1464, .inl (fun _ => 0)))), (q3, .inl (y.2.2 0, (366, .inl (fun _ => 0)))), (q4, .inl (y.2.2 0, (366, .inl (fun _ => 0)))), (q5, .inl (y.2.2 0, (61, .inl (fun _ => 0))))] ff_X9_22 rfl rfl rfl (Nat.le_of_ble_eq_true rfl) rfl dX9_init_45 ?_
  refine GC_aload_n (pc := 48) h dX9_init_48 rfl 0 rfl ?_
  refine GC_bipush (pc := 49) (v := (61)) h dX9_init_49 (by decide) ?_
  refine GC_newa (pc := 51) (at_ := .int) (ty := .int) h 0 rfl ac_int rfl (fun _ _ z => z) (N' := 61) (fun _ => rfl) (by decide) (by decide) (Nat.le_of_ble_eq_true rfl) (Nat.le_of_ble_eq_true rfl) (Nat.le_of_ble_eq_true rfl) dX9_init_51 (fun q6 => ?_)
  refine GC_putF (pc := 53) h (hnm.resolve_right (fun e => e rfl)) 0 [(h0, .inr (9, [.ref q1, .ref q2, .int 0, .ref q3, .int 0, .ref q4, .ref q5, .ref q6, .null, .null, .int 0, .int 0, .int 0, .int 0, .int 0, .int 0, .int 0, .null, .int 0, .null, .int 0, .int 0, .int 0, .int 0])), (q1, .inl (y.2.2 0, (366, .inl (fun _ => 0)))), (q2, .inl (y.2.2 0, (1464, .inl (fun _ => 0)))), (q3, .inl (y.2.2 0, (366, .inl (fun _ => 0)))), (q4, .inl (y.2.2 0, (366, .inl (fun _ => 0)))), (q5, .inl (y.2.2 0, (61, .inl (fun _ => 0)))), (q6, .inl (y.2.2 0, (61, .inl (fun _ => 0))))] ff_X9_25 rfl rfl rfl (Nat.le_of_ble_eq_true rfl) rfl dX9_init_53 ?_
  refine GC_aload_n (pc := 56) h dX9_init_56 rfl 0 rfl ?_
  refine GC_bipush (pc := 57) (v := (61)) h dX9_init_57 (by decide) ?_
  refine GC_newa (pc := 59) (at_ := .int) (ty := .int) h 0 rfl ac_int rfl (fun _ _ z => z) (N' := 61) (fun _ => rfl) (by decide) (by decide) (Nat.le_of_ble_eq_true rfl) (Nat.le_of_ble_eq_true rfl) (Nat.le_of_ble_eq_true rfl) dX9_init_59 (fun q7 => ?_)
  refine GC_putF (pc := 61) h (hnm.resolve_right (fun e => e rfl)) 0 [(h0, .inr (9, [.ref q1, .ref q2, .int 0, .ref q3, .int 0, .ref q4, .ref q5, .ref q6, .ref q7, .null, .int 0, .int 0, .int 0, .int 0, .int 0, .int 0, .int 0, .null, .int 0, .null, .int 0, .int 0, .int 0, .int 0])), (q1, .inl (y.2.2 0, (366, .inl (fun _ => 0)))), (q2, .inl (y.2.2 0, (1464, .inl (fun _ => 0)))), (q3, .inl (y.2.2 0, (366, .inl (fun _ => 0)))), (q4, .inl (y.2.2 0, (366, .inl (fun _ => 0)))), (q5, .inl (y.2.2 0, (61, .inl (fun _ => 0)))), (q6, .inl (y.2.2 0, (61, .inl (fun _ => 0)))), (q7, .inl (y.2.2 0, (61, .inl (fun _ => 0))))] ff_X9_28 rfl rfl rfl (Nat.le_of_ble_eq_true rfl) rfl dX9_init_61 ?_
  refine GC_aload_n (pc := 64) h dX9_init_64 rfl 0 rfl ?_
  refine GC_bipush (pc := 65) (v := (61)) h dX9_init_65 (by decide) ?_
  refine GC_newa (pc := 67) (at_ := .int) (ty := .int) h 0 rfl ac_int rfl (fun _ _ z => z) (N' := 61) (fun _ => rfl) (by decide) (by decide) (Nat.le_of_ble_eq_true rfl) (Nat.le_of_ble_eq_true rfl) (Nat.le_of_ble_eq_true rfl) dX9_init_67 (fun q8 => ?_)
  refine GC_putF (pc := 69) h (hnm.resolve_right (fun e => e rfl)) 0 [(h0, .inr (9, [.ref q1, .ref q2, .int 0, .ref q3, .int 0, .ref q4, .ref q5, .ref q6, .ref q7, .ref q8, .int 0, .int 0, .int 0, .int 0, .int 0, .int 0, .int 0, .null, .int 0, .null, .int 0, .int 0, .int 0, .int 0])), (q1, .inl (y.2.2 0, (366, .inl (fun _ => 0)))), (q2, .inl (y.2.2 0, (1464, .inl (fun _ => 0)))), (q3, .inl (y.2.2 0, (366, .inl (fun _ => 0)))), (q4, .inl (y.2.2 0, (366, .inl (fun _ => 0)))), (q5, .inl (y.2.2 0, (61, .inl (fun _ => 0)))), (q6, .inl (y.2.2 0, (61, .inl (fun _ => 0)))), (q7, .inl (y.2.2 0, (61, .inl (fun _ => 0)))), (q8, .inl (y.2.2 0, (61, .inl (fun _ => 0))))] ff_X9_31 rfl rfl rfl (Nat.le_of_ble_eq_true rfl) rfl dX9_init_69 ?_
  refine GC_aload_n (pc := 72) h dX9_init_72 rfl 0 rfl ?_
  refine GC_iconst (pc := 73) (v := (-1)) h dX9_init_73 (by decide) ?_
  refine GC_put (pc := 74) h 0 [(h0, .inr (9, [.ref q1, .ref q2, .int 0, .ref q3, .int 0, .ref q4, .ref q5, .ref q6, .ref q7, .ref q8, .int 0, .int (-1 : Int32), .int 0, .int 0, .int 0, .int 0, .int 0, .null, .int 0, .null, .int 0, .int 0, .int 0, .int 0])), (q1, .inl (y.2.2 0, (366, .inl (fun _ => 0)))), (q2, .inl (y.2.2 0, (1464, .inl (fun _ => 0)))), (q3, .inl (y.2.2 0, (366, .inl (fun _ => 0)))), (q4, .inl (y.2.2 0, (366, .inl (fun _ => 0)))), (q5, .inl (y.2.2 0, (61, .inl (fun _ => 0)))), (q6, .inl (y.2.2 0, (61, .inl (fun _ => 0)))), (q7, .inl (y.2.2 0, (61, .inl (fun _ => 0)))), (q8, .inl (y.2.2 0, (61, .inl (fun _ => 0))))] fp_X9_34 rfl rfl rfl (Nat.le_of_ble_eq_true rfl) rfl dX9_init_74 ?_
  refine GC_aload_n (pc := 77) h dX9_init_77 rfl 0 rfl ?_
  refine GC_iconst (pc := 78) (v := (-1)) h dX9_init_78 (by decide) ?_
  refine GC_put (pc := 79) h 0 [(h0, .inr (9, [.ref q1, .ref q2, .int 0, .ref q3, .int 0, .ref q4, .ref q5, .ref q6, .ref q7, .ref q8, .int 0, .int (-1 : Int32), .int 0, .int (-1 : Int32), .int 0, .int 0, .int 0, .null, .int 0, .null, .int 0, .int 0, .int 0, .int 0])), (q1, .inl (y.2.2 0, (366, .inl (fun _ => 0)))), (q2, .inl (y.2.2 0, (1464, .inl (fun _ => 0)))), (q3, .inl (y.2.2 0, (366, .inl (fun _ => 0)))), (q4, .inl (y.2.2 0, (366, .inl (fun _ => 0)))), (q5, .inl (y.2.2 0, (61, .inl (fun _ => 0)))), (q6, .inl (y.2.2 0, (61, .inl (fun _ => 0)))), (q7, .inl (y.2.2 0, (61, .inl (fun _ => 0)))), (q8, .inl (y.2.2 0, (61, .inl (fun _ => 0))))] fp_X9_38 rfl rfl rfl (Nat.le_of_ble_eq_true rfl) rfl dX9_init_79 ?_
  refine GC_aload_n (pc := 82) h dX9_init_82 rfl 0 rfl ?_
  refine GC_iconst (pc := 83) (v := (-1)) h dX9_init_83 (by decide) ?_
  refine GC_put (pc := 84) h 0 [(h0, .inr (9, [.ref q1, .ref q2, .int 0, .ref q3, .int 0, .ref q4, .ref q5, .ref q6, .ref q7, .ref q8, .int 0, .int (-1 : Int32), .int 0, .int (-1 : Int32), .int (-1 : Int32), .int 0, .int 0, .null, .int 0, .null, .int 0, .int 0, .int 0, .int 0])), (q1, .inl (y.2.2 0, (366, .inl (fun _ => 0)))), (q2, .inl (y.2.2 0, (1464, .inl (fun _ => 0)))), (q3, .inl (y.2.2 0, (366, .inl (fun _ => 0)))), (q4, .inl (y.2.2 0, (366, .inl (fun _ => 0)))), (q5, .inl (y.2.2 0, (61, .inl (fun _ => 0)))), (q6, .inl (y.2.2 0, (61, .inl (fun _ => 0)))), (q7, .inl (y.2.2 0, (61, .inl (fun _ => 0)))), (q8, .inl (y.2.2 0, (61, .inl (fun _ => 0))))] fp_X9_41 rfl rfl rfl (Nat.le_of_ble_eq_true rfl) rfl dX9_init_84 ?_
  refine GC_aload_n (pc := 87) h dX9_init_87 rfl 0 rfl ?_
  refine GC_bipush (pc := 88) (v := (60)) h dX9_init_88 (by decide) ?_
  refine GC_newa (pc := 90) (at_ := .boolean) (ty := .boolean) h 1 rfl ac_boolean rfl (fun _ _ z => z) (N' := 60) (fun _ => rfl) (by decide) (by decide) (Nat.le_of_ble_eq_true rfl) (Nat.le_of_ble_eq_true rfl) (Nat.le_of_ble_eq_true rfl) dX9_init_90 (fun q9 => ?_)
  refine GC_putF (pc := 92) h (hnm.resolve_right (fun e => e rfl)) 0 [(h0, .inr (9, [.ref q1, .ref q2, .int 0, .ref q3, .int 0, .ref q4, .ref q5, .ref q6, .ref q7, .ref q8, .int 0, .int (-1 : Int32), .int 0, .int (-1 : Int32), .int (-1 : Int32), .int 0, .int 0, .ref q9, .int 0, .null, .int 0, .int 0, .int 0, .int 0])), (q1, .inl (y.2.2 0, (366, .inl (fun _ => 0)))), (q2, .inl (y.2.2 0, (1464, .inl (fun _ => 0)))), (q3, .inl (y.2.2 0, (366, .inl (fun _ => 0)))), (q4, .inl (y.2.2 0, (366, .inl (fun _ => 0)))), (q5, .inl (y.2.2 0, (61, .inl (fun _ => 0)))), (q6, .inl (y.2.2 0, (61, .inl (fun _ => 0)))), (q7, .inl (y.2.2 0, (61, .inl (fun _ => 0)))), (q8, .inl (y.2.2 0, (61, .inl (fun _ => 0)))), (q9, .inl (y.2.2 1, (60, .inl (fun _ => 0))))] ff_X9_44 rfl rfl rfl (Nat.le_of_ble_eq_true rfl) rfl dX9_init_92 ?_
  refine GC_aload_n (pc := 95) h dX9_init_95 rfl 0 rfl ?_
  refine GC_bipush (pc := 96) (v := (60)) h dX9_init_96 (by decide) ?_
  refine GC_newa (pc := 98) (at_ := .char) (ty := .char) h 2 rfl ac_char rfl (fun _ _ z => z) (N' := 60) (fun _ => rfl) (by decide) (by decide) (Nat.le_of_ble_eq_true rfl) (Nat.le_of_ble_eq_true rfl) (Nat.le_of_ble_eq_true rfl) dX9_init_98 (fun q10 => ?_)
  refine GC_putF (pc := 100) h (hnm.resolve_right (fun e => e rfl)) 0 [(h0, .inr (9, [.ref q1, .ref q2, .int 0, .ref q3, .int 0, .ref q4, .ref q5, .ref q6, .ref q7, .ref q8, .int 0, .int (-1 : Int32), .int 0, .int (-1 : Int32), .int (-1 : Int32), .int 0, .int 0, .ref q9, .int 0, .ref q10, .int 0, .int 0, .int 0, .int 0])), (q1, .inl (y.2.2 0, (366, .inl (fun _ => 0)))), (q2, .inl (y.2.2 0, (1464, .inl (fun _ => 0)))), (q3, .inl (y.2.2 0, (366, .inl (fun _ => 0)))), (q4, .inl (y.2.2 0, (366, .inl (fun _ => 0)))), (q5, .inl (y.2.2 0, (61, .inl (fun _ => 0)))), (q6, .inl (y.2.2 0, (61, .inl (fun _ => 0)))), (q7, .inl (y.2.2 0, (61, .inl (fun _ => 0)))), (q8, .inl (y.2.2 0, (61, .inl (fun _ => 0)))), (q9, .inl (y.2.2 1, (60, .inl (fun _ => 0)))), (q10, .inl (y.2.2 2, (60, .inl (fun _ => 0))))] ff_X9_48 rfl rfl rfl (Nat.le_of_ble_eq_true rfl) rfl dX9_init_100 ?_
  refine GC_aload_n (pc := 103) h dX9_init_103 rfl 0 rfl ?_
  refine GC_get (pc := 104) (v := .ref q1) h 0 fl_X9_7 rfl rfl dX9_init_104 ?_
  refine GC_iconst (pc := 107) (v := (1)) h dX9_init_107 (by decide) ?_
  refine GC_sipush (pc := 108) (v := (900)) h dX9_init_108 (by decide) ?_
  refine GC_iast (pc := 111) h 1 [(h0, .inr (9, [.ref q1, .ref q2, .int 0, .ref q3, .int 0, .ref q4, .ref q5, .ref q6, .ref q7, .ref q8, .int 0, .int (-1 : Int32), .int 0, .int (-1 : Int32), .int (-1 : Int32), .int 0, .int 0, .ref q9, .int 0, .ref q10, .int 0, .int 0, .int 0, .int 0])), (q1, .inl (y.2.2 0, (366, .inl (upd (fun _ => 0) 1 (900 : Int32))))), (q2, .inl (y.2.2 0, (1464, .inl (fun _ => 0)))), (q3, .inl (y.2.2 0, (366, .inl (fun _ => 0)))), (q4, .inl (y.2.2 0, (366, .inl (fun _ => 0)))), (q5, .inl (y.2.2 0, (61, .inl (fun _ => 0)))), (q6, .inl (y.2.2 0, (61, .inl (fun _ => 0)))), (q7, .inl (y.2.2 0, (61, .inl (fun _ => 0)))), (q8, .inl (y.2.2 0, (61, .inl (fun _ => 0)))), (q9, .inl (y.2.2 1, (60, .inl (fun _ => 0)))), (q10, .inl (y.2.2 2, (60, .inl (fun _ => 0))))] rfl (by unfold vp_in; decide) rfl dX9_init_111 ?_
  refine GC_aload_n (pc := 112) h dX9_init_112 rfl 0 rfl ?_
  refine GC_get (pc := 113) (v := .ref q1) h 0 fl_X9_7 rfl rfl dX9_init_113 ?_
  refine GC_iconst (pc := 116) (v := (2)) h dX9_init_116 (by decide) ?_
  refine GC_sipush (pc := 117) (v := (1500)) h dX9_init_117 (by decide) ?_
  refine GC_iast (pc := 120) h 1 [(h0, .inr (9, [.ref q1, .ref q2, .int 0, .ref q3, .int 0, .ref q4, .ref q5, .ref q6, .ref q7, .ref q8, .int 0, .int (-1 : Int32), .int 0, .int (-1 : Int32), .int (-1 : Int32), .int 0, .int 0, .ref q9, .int 0, .ref q10, .int 0, .int 0, .int 0, .int 0])), (q1, .inl (y.2.2 0, (366, .inl (upd (upd (fun _ => 0) 1 (900 : Int32)) 2 (1500 : Int32))))), (q2, .inl (y.2.2 0, (1464, .inl (fun _ => 0)))), (q3, .inl (y.2.2 0, (366, .inl (fun _ => 0)))), (q4, .inl (y.2.2 0, (366, .inl (fun _ => 0)))), (q5, .inl (y.2.2 0, (61, .inl (fun _ => 0)))), (q6, .inl (y.2.2 0, (61, .inl (fun _ => 0)))), (q7, .inl (y.2.2 0, (61, .inl (fun _ => 0)))), (q8, .inl (y.2.2 0, (61, .inl (fun _ => 0)))), (q9, .inl (y.2.2 1, (60, .inl (fun _ => 0)))), (q10, .inl (y.2.2 2, (60, .inl (fun _ => 0))))] rfl (by unfold vp_in; decide) rfl dX9_init_120 ?_
  refine GC_aload_n (pc := 121) h dX9_init_121 rfl 0 rfl ?_
  refine GC_get (pc := 122) (v := .ref q1) h 0 fl_X9_7 rfl rfl dX9_init_122 ?_
  refine GC_iconst (pc := 125) (v := (3)) h dX9_init_125 (by decide) ?_
  refine GC_bipush (pc := 126) (v := (20)) h dX9_init_126 (by decide) ?_
  refine GC_iast (pc := 128) h 1 [(h0, .inr (9, [.ref q1, .ref q2, .int 0, .ref q3, .int 0, .ref q4, .ref q5, .ref q6, .ref q7, .ref q8, .int 0, .int (-1 : Int32), .int 0, .int (-1 : Int32), .int (-1 : Int32), .int 0, .int 0, .ref q9, .int 0, .ref q10, .int 0, .int 0, .int 0, .int 0])), (q1, .inl (y.2.2 0, (366, .inl (upd (upd (upd (fun _ => 0) 1 (900 : Int32)) 2 (1500 : Int32)) 3 (20 : Int32))))), (q2, .inl (y.2.2 0, (1464, .inl (fun _ => 0)))), (q3, .inl (y.2.2 0, (366, .inl (fun _ => 0)))), (q4, .inl (y.2.2 0, (366, .inl (fun _ => 0)))), (q5, .inl (y.2.2 0, (61, .inl (fun _ => 0)))), (q6, .inl (y.2.2 0, (61, .inl (fun _ => 0)))), (q7, .inl (y.2.2 0, (61, .inl (fun _ => 0)))), (q8, .inl (y.2.2 0, (61, .inl (fun _ => 0)))), (q9, .inl (y.2.2 1, (60, .inl (fun _ => 0)))), (q10, .inl (y.2.2 2, (60, .inl (fun _ => 0))))] rfl (by unfold vp_in; decide) rfl dX9_init_128 ?_
  exact GC_ret (pc := 129) (Wr := wX9 y) h hlk hret hQ hAe (fun i => if i < 1 then h0 else if i < 2 then q1 else if i < 3 then q2 else if i < 4 then q3 else if i < 5 then q4 else if i < 6 then q5 else if i < 7 then q6 else if i < 8 then q7 else if i < 9 then q8 else if i < 10 then q9 else q10) rfl rfl rfl rfl dX9_init_129
