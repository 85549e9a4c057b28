set_option maxRecDepth 20000 in
theorem law_start {p : Program} {e : Env} {s : State} {m : MethodId} {below : List Frame} {meth : Method} {c : Code} (l : Launch) {b L : Nat} {xs : Nat → Int32} (hden : ∃ M', d_law xs L M0 = some (1, M')) (C0 : lw_At p s m meth c b L xs) : W p l e room_1 s m #[Value.ref b] below meth c s.heap [] 0 0 (lw_Z below #[Value.ref b] s) (entryFrame m ([Value.ref b] : List Value).toArray 4) := by
  obtain ⟨hx, hb, hr, hml, hown, hts, hX, hbl, hlocks, hgv⟩ := id C0
  have htT : ∀ w ∈ TT, w.before #[Value.ref b] s = true := fun w hw => hts w (List.mem_filter.mp hw).1
  obtain ⟨c0, k0, hk0⟩ := u_known htT uTX0 (htT _ ln_X5_28.2.2.2.2.1)
  obtain ⟨c1, k1, hk1⟩ := u_known htT uTX1 (htT _ ln_X3_9.2.2.2.2.1)
  obtain ⟨c2, k2, hk2⟩ := u_known htT uTX2 (htT _ ln_X8_26.2.2.2.2.1)
  obtain ⟨c3, k3, hk3⟩ := u_known htT uTX3 (htT _ ln_X8_47.2.2.2.2.1)
  obtain ⟨c4, k4, hk4⟩ := u_known htT uTX4 (htT _ ln_X5_21.2.2.2.2.1)
  obtain ⟨c5, k5, hk5⟩ := u_known htT uTX5 (htT _ ln_X2_9.2.2.2.2.1)
  obtain ⟨c6, k6, hk6⟩ := u_known htT uTX6 (htT _ ln_X8_33.2.2.2.2.1)
  obtain ⟨c7, k7, hk7⟩ := u_known htT uTX7 (htT _ ln_X5_35.2.2.2.2.1)
  obtain ⟨c8, k8, hk8⟩ := u_known htT uTX8 (htT _ ln_L_7.2.2.2.2.1)
  obtain ⟨c9, k9, hk9⟩ := u_known htT uTX9 (htT _ ln_L_10.2.2.2.2.1)
  obtain ⟨D, hKc⟩ : ∃ D : va_G, ∀ (k : Nat) (q : vw_C), CL[k]? = some q → u_Kn s q.1 q.2.1 q.2.2 (D.1 k) (D.2 k) := by
    refine ⟨(fun k => if k = 0 then c0 else if k = 1 then c1 else if k = 2 then c2 else if k = 3 then c3 else if k = 4 then c4 else if k = 5 then c5 else if k = 6 then c6 else if k = 7 then c7 else if k = 8 then c8 else c9, fun k => if k = 0 then k0 else if k = 1 then k1 else if k = 2 then k2 else if k = 3 then k3 else if k = 4 then k4 else if k = 5 then k5 else if k = 6 then k6 else if k = 7 then k7 else if k = 8 then k8 else k9), ?_⟩
    intro k q hq
    match k, hq with
    | 0, hq => cases hq; exact hk0
    | 1, hq => cases hq; exact hk1
    | 2, hq => cases hq; exact hk2
    | 3, hq => cases hq; exact hk3
    | 4, hq => cases hq; exact hk4
    | 5, hq => cases hq; exact hk5
    | 6, hq => cases hq; exact hk6
    | 7, hq => cases hq; exact hk7
    | 8, hq => cases hq; exact hk8
    | 9, hq => cases hq; exact hk9
    | k + 10, hq => simp [CL] at hq
  obtain ⟨aI, kI, pI, eI1, eI2, eI3⟩ := Cond.arrayClass_spec (htT _ ac_int)
  obtain ⟨aZ, kZ, pZ, eZ1, eZ2, eZ3⟩ := Cond.arrayClass_spec (htT _ ac_boolean)
  obtain ⟨aC, kC, pC, eC1, eC2, eC3⟩ := Cond.arrayClass_spec (htT _ ac_char)
  have hao : (Cond.arrayOver (.object "BoilerBook$State")).before #[Value.ref b] s = true := hts _ (List.mem_append_right _ (List.mem_of_getElem? (i := 176) (by decide +kernel)))
  obtain ⟨pS, aS, kS, eS1, -, eS2, eS3, eS4⟩ := Cond.arrayOver_spec hao
  obtain ⟨ca, hca⟩ : ∃ ca : Nat → ClassId, ca = fun t => if t = 0 then aI else if t = 1 then aZ else if t = 2 then aC else aS := ⟨_, rfl⟩
  have hK : va_K D CL (tyl (D, (fun _ => 0), ca)) s := by
    refine ⟨hKc, fun k q hk => ?_⟩
    subst hca
    match k, hk with
    | 0, hk => cases hk; exact ⟨fun n z => ⟨fun k h => (by cases h), kI, eI2, pI, eI3⟩, eI1⟩
    | 1, hk => cases hk; exact ⟨fun n z => ⟨fun k h => (by cases h), kZ, eZ2, pZ, eZ3⟩, eZ1⟩
    | 2, hk => cases hk; exact ⟨fun n z => ⟨fun k h => (by cases h), kC, eC2, pC, eC3⟩, eC1⟩
    | 3, hk => cases hk; exact ⟨fun n z => ⟨fun k h => (by cases h), kS, eS2, pS, eS3⟩, kS, pS, eS2, eS3, eS1, eS4⟩
    | k + 4, hk => simp [tyl] at hk
  have h : OkC ((p, l, e, room_1, s), (m, #[Value.ref b], below, meth, c), (154, 6985, 4, (fun q => s.heap.size ≤ q), fun _ _ => lw_Z below #[Value.ref b] s)) (D, (fun _ => 0), ca) code RL 4 room_1 :=
    ⟨hx, hb, hml, hown, htT, hK, fun _ h => h, rfl, va_AO.of hao⟩
  have hl := lv_entry ([.ref b]) (n := 4) (Nat.le_of_ble_eq_true rfl)
  rw [lg_entry_eq]
  refine (?_ : GC ((p, l, e, room_1, s), (m, #[Value.ref b], below, meth, c), (154, 6985, 4, (fun q => s.heap.size ≤ q), fun _ _ => lw_Z below #[Value.ref b] s)) (D, (fun _ => 0), ca) 4 0 [(0, .ref b)] [] [] 0 0) s.heap [] _ (fun k q h => by simp at h) ⟨fun i j p q h => by simp at h, fun k q h => by simp at h⟩ va_S.rf hl
  refine GC_new (pc := 0) h ln_L_7 df_X8 (Nat.le_of_ble_eq_true rfl) (Nat.le_of_ble_eq_true rfl) dL_law_0 (fun q1 => ?_)
  refine GC_dup (pc := 3) h dL_law_3 rfl ?_
  refine GC_call (pc := 4) h li_L_9 (i_X8 l (D, (fun _ => 0), ca)) (Nat.le_of_ble_eq_true rfl) ⟨(Nat.le_of_ble_eq_true rfl), (Nat.le_of_ble_eq_true rfl)⟩ ⟨(Nat.le_of_ble_eq_true rfl), (Nat.le_of_ble_eq_true rfl)⟩ [] rfl dL_law_4 (fun b1 hb1 => ?_)
  subst hb1
  refine GC_astore_n (pc := 7) h [(1, .ref (b1 0)), (0, .ref b)] dL_law_7 rfl (by decide) rfl ?_
  refine GC_new (pc := 8) h ln_L_10 df_X9 (Nat.le_of_ble_eq_true rfl) (Nat.le_of_ble_eq_true rfl) dL_law_8 (fun q2 => ?_)
  refine GC_dup (pc := 11) h dL_law_11 rfl ?_
  refine GC_call (pc := 12) h li_L_12 (i_X9 l (D, (fun _ => 0), ca)) (Nat.le_of_ble_eq_true rfl) ⟨(Nat.le_of_ble_eq_true rfl), (Nat.le_of_ble_eq_true rfl)⟩ ⟨(Nat.le_of_ble_eq_true rfl), (Nat.le_of_ble_eq_true rfl)⟩ (wX8 (D, (fun _ => 0), ca) b1) rfl dL_law_12 (fun b2 hb2 => ?_)
  subst hb2
  refine GC_astore_n (pc := 15) h [(2, .ref (b2 0)), (1, .ref (b1 0)), (0, .ref b)] dL_law_15 rfl (by decide) rfl ?_
  refine GC_iconst (pc := 16) (v := 0) h dL_law_16 (by decide) ?_
  refine GC_istore_n (pc := 17) h [(3, .int 0), (2, .ref (b2 0)), (1, .ref (b1 0)), (0, .ref b)] dL_law_17 rfl (by decide) rfl ?_
  intro H locs ls hP hD hS hl
  have hI := start_I (D := D) (ca := ca) (z := fun _ => 0) (b1 := b1) (b2 := b2) hD
  have hok : OkL ((p, l, e, room_1, s), (m, #[Value.ref b], below, meth, c), (154, 6985, 4, (fun q => s.heap.size ≤ q), fun r _ => lw_Zv r below #[Value.ref b] s)) (D, adr b1 b2, ca) b :=
    ⟨⟨hx, hb, hml, hown, htT, hK, hI, start_A (D := D) (ca := ca) (z := fun _ => 0) (b1 := b1) (b2 := b2) hD, (Nat.le_of_ble_eq_true rfl), (Nat.le_of_ble_eq_true rfl)⟩, rfl, rfl, rfl, hr, hlocks, rfl, rfl⟩
  obtain ⟨M', hM⟩ := hden
  have hg := g_law hI hok hX hbl M0
  exact hg 1 M' hM H locs ls (start_P (z := fun _ => 0) hP) hS (lv_sub hl [3, 2, 1, 0] rfl)
