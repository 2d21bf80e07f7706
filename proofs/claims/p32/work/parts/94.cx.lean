/-- array classes that the tables say are there -/
theorem arr_of {args : Array Value} {s : State} {ty : FieldType} (h : (Cond.arrayClass ty).before args s = true) (ht : ty = .int ∨ ty = .boolean ∨ ty = .long) : ∃ cA, ArrOfT s cA ty ∧ va_RA s cA ty := by
  obtain ⟨cA, kA, comp, h1, h2, h3⟩ := Cond.arrayClass_spec h
  refine ⟨cA, fun n z => ⟨fun k h => (by cases h), kA, h2, comp, h3⟩, ?_⟩
  rcases ht with rfl | rfl | rfl <;> exact h1
theorem arr_ofO {args : Array Value} {s : State} {C : String} (h : (Cond.arrayOver (.object C)).before args s = true) : ∃ cA, ArrOfT s cA (.object C) ∧ va_RA s cA (.object C) := by
  obtain ⟨comp, c, k, h1, h2, h3, h4, h5⟩ := Cond.arrayOver_spec h
  exact ⟨c, fun n z => ⟨fun k h => (by cases h), k, h3, comp, h4⟩, ⟨k, comp, h3, h4, h1, h5⟩⟩
theorem NWs_in : ∀ w ∈ NWs, w ∈ lw_tbl := by decide +kernel
theorem nwk_tb {w : Cond} (h : nwk w = true) : w.onTables = true := by
  cases w <;> first | rfl | (cases h)
theorem inl_Jx4a65c : ∀ w ∈ u_ws RJx4a65c TJx4a65c 3, w ∈ lw_tbl := by decide +kernel
theorem inl_X0 : ∀ w ∈ u_ws RX0 TX0 2, w ∈ lw_tbl := by decide +kernel
theorem inl_X1 : ∀ w ∈ u_ws RX1 TX1 5, w ∈ lw_tbl := by decide +kernel
theorem inl_X2 : ∀ w ∈ u_ws RX2 TX2 1, w ∈ lw_tbl := by decide +kernel
theorem inl_X3 : ∀ w ∈ u_ws RX3 TX3 2, w ∈ lw_tbl := by decide +kernel
theorem inl_X4 : ∀ w ∈ u_ws RX4 TX4 4, w ∈ lw_tbl := by decide +kernel
theorem inl_X5 : ∀ w ∈ u_ws RX5 TX5 2, w ∈ lw_tbl := by decide +kernel
theorem inl_X6 : ∀ w ∈ u_ws RX6 TX6 9, w ∈ lw_tbl := by decide +kernel
theorem inl_X7 : ∀ w ∈ u_ws RX7 TX7 2, w ∈ lw_tbl := by decide +kernel
theorem inl_X8 : ∀ w ∈ u_ws RX8 TX8 10, w ∈ lw_tbl := by decide +kernel
/-- the launch keeps no stack traces -/
theorem no_tr {l : Launch} (h : l.flags = flags0) : l.stackTraces = false := by
  show (!l.flags.contains noTraceFlag) = false
  rw [h]
  decide +kernel
theorem NCs_of {args : Array Value} {s : State} (hf : ∀ c ∈ flatC (Jvm.Cond.and given_1 narrow_1), c.before args s = true) : ∀ q ∈ NCs, va_Nc q.1 q.2 s := fun q hq => by
  rcases List.mem_cons.mp hq with rfl | hq
  · exact va_Nc.of (hf _ (by decide +kernel))
  rcases List.mem_cons.mp hq with rfl | hq
  · exact va_Nc.of (hf _ (by decide +kernel))
  rcases List.mem_cons.mp hq with rfl | hq
  · exact va_Nc.of (hf _ (by decide +kernel))
  rcases List.mem_cons.mp hq with rfl | hq
  · exact va_Nc.of (hf _ (by decide +kernel))
  rcases List.mem_cons.mp hq with rfl | hq
  · exact va_Nc.of (hf _ (by decide +kernel))
  rcases List.mem_cons.mp hq with rfl | hq
  · exact va_Nc.of (hf _ (by decide +kernel))
  exact absurd hq List.not_mem_nil
/-- what the law's walk stands on, out of the start -/
theorem law_cx {p : Program} {e : Env} {s : State} {m : MethodId} {below : List Frame} {meth : Method} {c : Code} (l : Launch) (hflags : l.flags = flags0) {b L : Nat} {xs : Nat → Int32} (C0 : lw_At p s m meth c b L xs) : ∃ (G : GG) (z : Nat), Cx ((p, l, e, room_1, s, m, #[Value.ref b], below, meth, c), (fun q : Nat => s.heap.size ≤ q), lw_Z below #[Value.ref b] s) G z cL_law RL wsL_law room_1 27 := by
  obtain ⟨hx, hb, hr, hml, hown, hts, hX, hbl, hlocks, hgv⟩ := C0
  have hf := flat_of_before _ hgv
  have hA0 : ∀ a : Nat, a < s.heap.size → ¬ (fun q : Nat => s.heap.size ≤ q) a := fun a h => Nat.not_le.mpr h
  obtain ⟨c0, i0, k0⟩ := u_known (C := RJx4a65c) (T := TJx4a65c) (N := 3) (n := 3) hts inl_Jx4a65c (hts (.instantiable RJx4a65c 3) (by decide +kernel))
  obtain ⟨c1, i1, k1⟩ := u_known (C := RX0) (T := TX0) (N := 2) (n := 2) hts inl_X0 (hts (.instantiable RX0 2) (by decide +kernel))
  obtain ⟨c2, i2, k2⟩ := u_known (C := RX1) (T := TX1) (N := 5) (n := 5) hts inl_X1 (hts (.instantiable RX1 5) (by decide +kernel))
  obtain ⟨c3, i3, k3⟩ := u_known (C := RX2) (T := TX2) (N := 1) (n := 1) hts inl_X2 (hts (.instantiable RX2 1) (by decide +kernel))
  obtain ⟨c4, i4, k4⟩ := u_known (C := RX3) (T := TX3) (N := 2) (n := 2) hts inl_X3 (hts (.instantiable RX3 2) (by decide +kernel))
  obtain ⟨c5, i5, k5⟩ := u_known (C := RX4) (T := TX4) (N := 4) (n := 4) hts inl_X4 (hts (.instantiable RX4 4) (by decide +kernel))
  obtain ⟨c6, i6, k6⟩ := u_known (C := RX5) (T := TX5) (N := 2) (n := 2) hts inl_X5 (hts (.instantiable RX5 2) (by decide +kernel))
  obtain ⟨c7, i7, k7⟩ := u_known (C := RX6) (T := TX6) (N := 9) (n := 9) hts inl_X6 (hts (.instantiable RX6 9) (by decide +kernel))
  obtain ⟨c8, i8, k8⟩ := u_known (C := RX7) (T := TX7) (N := 2) (n := 2) hts inl_X7 (hts (.instantiable RX7 2) (by decide +kernel))
  obtain ⟨c9, i9, k9⟩ := u_known (C := RX8) (T := TX8) (N := 10) (n := 10) hts inl_X8 (hts (.instantiable RX8 10) (by decide +kernel))
  obtain ⟨dC, dI, hKc⟩ : ∃ (dC : Nat → ClassId) (dI : Nat → Nat → Nat), ∀ (k : Nat) (q : vw_C), vwCl[k]? = some q → u_Kn s q.1 q.2.1 q.2.2 (dC k) (dI k) := by
    refine ⟨fun k => match k with | 0 => c0 | 1 => c1 | 2 => c2 | 3 => c3 | 4 => c4 | 5 => c5 | 6 => c6 | 7 => c7 | 8 => c8 | _ => c9, fun k => match k with | 0 => i0 | 1 => i1 | 2 => i2 | 3 => i3 | 4 => i4 | 5 => i5 | 6 => i6 | 7 => i7 | 8 => i8 | _ => i9, ?_⟩
    intro k q hq
    match k, hq with
    | 0, hq => cases hq; exact k0
    | 1, hq => cases hq; exact k1
    | 2, hq => cases hq; exact k2
    | 3, hq => cases hq; exact k3
    | 4, hq => cases hq; exact k4
    | 5, hq => cases hq; exact k5
    | 6, hq => cases hq; exact k6
    | 7, hq => cases hq; exact k7
    | 8, hq => cases hq; exact k8
    | 9, hq => cases hq; exact k9
    | k + 10, hq => simp [vwCl] at hq
  obtain ⟨cI, aI⟩ := arr_of (ty := .int) (hts (.arrayClass .int) (by decide +kernel)) (Or.inl rfl)
  obtain ⟨cZ, aZ⟩ := arr_of (ty := .boolean) (hts (.arrayClass .boolean) (by decide +kernel)) (Or.inr (Or.inl rfl))
  obtain ⟨cJ, aJ⟩ := arr_of (ty := .long) (hts (.arrayClass .long) (by decide +kernel)) (Or.inr (Or.inr rfl))
  have hao : (Cond.arrayOver (.object "java/lang/Object")).before #[Value.ref b] s = true := hts _ (by decide +kernel)
  obtain ⟨cO, aO⟩ := arr_ofO hao
  have hlen : (Term.length (.static "java/util/ArrayList" "DEFAULTCAPACITY_EMPTY_ELEMENTDATA" "[Ljava/lang/Object;")).eval #[Value.ref b] s none [] s = some (.int 0) := va_eqt (hf _ (by decide +kernel))
  obtain ⟨z, hz1, hz2⟩ := va_Tof (tm := .static "java/util/ArrayList" "DEFAULTCAPACITY_EMPTY_ELEMENTDATA" "[Ljava/lang/Object;") (ty := .object "java/lang/Object") (N := 0) (f := fun _ => .null) (A := fun q : Nat => s.heap.size ≤ q) (by decide) (hf _ (by decide +kernel)) hlen (fun j hj => absurd hj (Nat.not_lt_zero j)) hA0
  have hZs : Zs z (fun q : Nat => s.heap.size ≤ q) s s.heap := ⟨va_Zof (hts _ (by decide +kernel)) (hts _ (by decide +kernel)) hz1 hA0, hz2, vx_Zqof (hts _ (by decide +kernel)) (hts _ (by decide +kernel)) (hf _ (by decide +kernel)) hA0, vx_Zqof (hts _ (by decide +kernel)) (hts _ (by decide +kernel)) (hf _ (by decide +kernel)) hA0⟩
  have hNw : Nws s := ⟨fun w hw => va_Nw.of (nwk_tb (List.all_eq_true.mp NWs_k w hw)) (hts w (NWs_in w hw)), NCs_of hf, va_AO.of hao⟩
  refine ⟨((dC, dI), cI, cZ, cO, cJ), z, hx, hb, hown, fun w hw => hts w (wsL_law_in w hw), hlocks, ⟨hKc, fun k q hq => ?_⟩, fun q h => h, rfl, hZs, hNw, no_tr hflags, hml⟩
  match k, hq with
  | 0, hq => cases hq; exact aI
  | 1, hq => cases hq; exact aZ
  | 2, hq => cases hq; exact aO
  | 3, hq => cases hq; exact aJ
  | k + 4, hq => simp [tysG] at hq
