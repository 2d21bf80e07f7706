/-- the launch keeps no stack traces -/
theorem no_tr {l : Launch} (h : l.flags = flags0) : l.stackTraces = false := by
  show (!l.flags.contains noTraceFlag) = false
  rw [h]
  decide +kernel
theorem NCs_of {args : Array Value} {s : State} (hf : ∀ c ∈ flatC (Jvm.Cond.and given_1 narrow_1), c.before args s = true) : ∀ q ∈ NCs, va_Nc q.1 q.2 s := fun q hq => by
  rcases List.mem_cons.mp hq with rfl | hq
  · exact va_Nc.of (hf _ (by decide +kernel))
  rcases List.mem_cons.mp hq with rfl | hq
  · exact va_Nc.of (hf _ (by decide +kernel))
  rcases List.mem_cons.mp hq with rfl | hq
  · exact va_Nc.of (hf _ (by decide +kernel))
  rcases List.mem_cons.mp hq with rfl | hq
  · exact va_Nc.of (hf _ (by decide +kernel))
  exact absurd hq List.not_mem_nil
/-- what the law's walk stands on, out of the start -/
theorem law_cx {p : Program} {e : Env} {s : State} {m : MethodId} {below : List Frame} {meth : Method} {c : Code} (l : Launch) (hflags : l.flags = flags0) {b L : Nat} {xs : Nat → Int32} (C0 : lw_At p s m meth c b L xs) : ∃ (G : GG) (z : Nat), Cx ((p, l, e, room_1, s, m, #[Value.ref b], below, meth, c), (fun q : Nat => s.heap.size ≤ q), lw_Z below #[Value.ref b] s) G z cL_law RL wsL_law room_1 7 := by
  obtain ⟨hx, hb, hr, hml, hown, hts, hX, hbl, hlocks, hgv⟩ := C0
  have hf := flat_of_before _ hgv
  have hA0 : ∀ a : Nat, a < s.heap.size → ¬ (fun q : Nat => s.heap.size ≤ q) a := fun a h => Nat.not_le.mpr h
  obtain ⟨c0, i0, k0⟩ := u_known (C := RJx4a65c) (T := TJx4a65c) (N := 3) (n := 3) hts inl_Jx4a65c (hts (.instantiable RJx4a65c 3) (by decide +kernel))
  obtain ⟨c1, i1, k1⟩ := u_known (C := RX0) (T := TX0) (N := 2) (n := 2) hts inl_X0 (hts (.instantiable RX0 2) (by decide +kernel))
  obtain ⟨c2, i2, k2⟩ := u_known (C := RX1) (T := TX1) (N := 5) (n := 5) hts inl_X1 (hts (.instantiable RX1 5) (by decide +kernel))
  obtain ⟨c3, i3, k3⟩ := u_known (C := RX2) (T := TX2) (N := 1) (n := 1) hts inl_X2 (hts (.instantiable RX2 1) (by decide +kernel))
  obtain ⟨c4, i4, k4⟩ := u_known (C := RX3) (T := TX3) (N := 2) (n := 2) hts inl_X3 (hts (.instantiable RX3 2) (by decide +kernel))
  obtain ⟨c5, i5, k5⟩ := u_known (C := RX4) (T := TX4) (N := 4) (n := 4) hts inl_X4 (hts (.instantiable RX4 4) (by decide +kernel))
  obtain ⟨c6, i6, k6⟩ := u_known (C := RX5) (T := TX5) (N := 2) (n := 2) hts inl_X5 (hts (.instantiable RX5 2) (by decide +kernel))
  obtain ⟨c7, i7, k7⟩ := u_known (C := RX6) (T := TX6) (N := 9) (n := 9) hts inl_X6 (hts (.instantiable RX6 9) (by decide +kernel))
  obtain ⟨c8, i8, k8⟩ := u_known (C := RX7) (T := TX7) (N := 2) (n := 2) hts inl_X7 (hts (.instantiable RX7 2) (by decide +kernel))
  obtain ⟨c9, i9, k9⟩ := u_known (C := RX8) (T := TX8) (N := 10) (n := 10) hts inl_X8 (hts (.instantiable RX8 10) (by decide +kernel))
  obtain ⟨c10, i10, k10⟩ := u_known (C := RX9) (T := TX9) (N := 29) (n := 29) hts inl_X9 (hts (.instantiable RX9 29) (by decide +kernel))
  obtain ⟨dC, dI, hKc⟩ : ∃ (dC : Nat → ClassId) (dI : Nat → Nat → Nat), ∀ (k : Nat) (q : vw_C), vwCl[k]? = some q → u_Kn s q.1 q.2.1 q.2.2 (dC k) (dI k) := by
    refine ⟨fun k => match k with | 0 => c0 | 1 => c1 | 2 => c2 | 3 => c3 | 4 => c4 | 5 => c5 | 6 => c6 | 7 => c7 | 8 => c8 | 9 => c9 | _ => c10, fun k => match k with | 0 => i0 | 1 => i1 | 2 => i2 | 3 => i3 | 4 => i4 | 5 => i5 | 6 => i6 | 7 => i7 | 8 => i8 | 9 => i9 | _ => i10, ?_⟩
    intro k q hq
    match k, hq with
    | 0, hq => cases hq; exact k0
    | 1, hq => cases hq; exact k1
    | 2, hq => cases hq; exact k2
    | 3, hq => cases hq; exact k3
    | 4, hq => cases hq; exact k4
    | 5, hq => cases hq; exact k5
    | 6, hq => cases hq; exact k6
    | 7, hq => cases hq; exact k7
    | 8, hq => cases hq; exact k8
    | 9, hq => cases hq; exact k9
    | 10, hq => cases hq; exact k10
    | k + 11, hq => simp [vwCl] at hq
  obtain ⟨cI, aI⟩ := arr_of (ty := .int) (hts (.arrayClass .int) (by decide +kernel)) (Or.inl rfl)
  obtain ⟨cZ, aZ⟩ := arr_of (ty := .boolean) (hts (.arrayClass .boolean) (by decide +kernel)) (Or.inr (Or.inl rfl))
  obtain ⟨cJ, aJ⟩ := arr_of (ty := .long) (hts (.arrayClass .long) (by decide +kernel)) (Or.inr (Or.inr rfl))
  have hao : (Cond.arrayOver (.object "java/lang/Object")).before #[Value.ref b] s = true := hts _ (by decide +kernel)
  obtain ⟨cO, aO⟩ := arr_ofO hao
  have hlen : (Term.length (.static "java/util/ArrayList" "DEFAULTCAPACITY_EMPTY_ELEMENTDATA" "[Ljava/lang/Object;")).eval #[Value.ref b] s none [] s = some (.int 0) := va_eqt (hf _ (by decide +kernel))
  obtain ⟨z, hz1, hz2⟩ := va_Tof (tm := .static "java/util/ArrayList" "DEFAULTCAPACITY_EMPTY_ELEMENTDATA" "[Ljava/lang/Object;") (ty := .object "java/lang/Object") (N := 0) (f := fun _ => .null) (A := fun q : Nat => s.heap.size ≤ q) (by decide) (hf _ (by decide +kernel)) hlen (fun j hj => absurd hj (Nat.not_lt_zero j)) hA0
  have hZs : Zs z (fun q : Nat => s.heap.size ≤ q) s s.heap := ⟨va_Zof (hts _ (by decide +kernel)) (hts _ (by decide +kernel)) hz1 hA0, hz2, vx_Zqof (hts _ (by decide +kernel)) (hts _ (by decide +kernel)) (hf _ (by decide +kernel)) hA0, vx_Zqof (hts _ (by decide +kernel)) (hts _ (by decide +kernel)) (hf _ (by decide +kernel)) hA0⟩
  have hNw : Nws s := ⟨fun w hw => va_Nw.of (nwk_tb (List.all_eq_true.mp NWs_k w hw)) (hts w (NWs_in w hw)), NCs_of hf, va_AO.of hao⟩
  refine ⟨((dC, dI), cI, cZ, cO, cJ), z, hx, hb, hown, fun w hw => hts w (wsL_law_in w hw), hlocks, ⟨hKc, fun k q hq => ?_⟩, fun q h => h, rfl, hZs, hNw, no_tr hflags, hml⟩
  match k, hq with
  | 0, hq => cases hq; exact aI
  | 1, hq => cases hq; exact aZ
  | 2, hq => cases hq; exact aO
  | 3, hq => cases hq; exact aJ
  | k + 4, hq => simp [tysG] at hq
set_option maxHeartbeats 4000000 in
set_option maxRecDepth 100000 in
/-- from the law's entry -/
theorem law_start {E : EE} {G : GG} {z b L : Nat} {xs : Nat → Int32} (C : Cx E G z cL_law RL wsL_law room_1 7) (hSc : Sc E b L xs) (kend : ∀ (cells slots : Nat) (lv : List (Nat × Value)) (μ : Mm), cells ≤ 601024 → slots ≤ 7293034 → Wx E G cells slots 1807 lv [] μ) : Wx E G 0 0 0 [(0, .ref b)] [] (fun _ => none) := by
  have in_X8 : ∀ w ∈ u_ws RX8 TX8 10, w ∈ wsL_law := by decide +kernel
  have in_X9 : ∀ w ∈ u_ws RX9 TX9 29, w ∈ wsL_law := by decide +kernel
  refine z_new (ci := 9) (Cn := RX8) (T := TX8) (N := 10) (cc9 := 1) (ss9 := 10) (fs := [.null, .null, .null, .null, .null, .null, .null, .null, .int (zI 0), .int (zI 0)]) C 0 dL_law_0 in_X8 rfl tyX8 tyX8_ok (by decide +kernel) (by decide +kernel) (by decide +kernel) (fun j hj => by rcases (show j = 0 ∨ j = 1 ∨ j = 2 ∨ j = 3 ∨ j = 4 ∨ j = 5 ∨ j = 6 ∨ j = 7 ∨ j = 8 ∨ j = 9 by omega) with rfl | rfl | rfl | rfl | rfl | rfl | rfl | rfl | rfl | rfl <;> rfl) rfl rfl (Nat.le_of_ble_eq_true rfl) (Nat.le_of_ble_eq_true rfl) (fun a1 μ2 hq3 hO4 hF5 => ?_)
  have hF6 : Fr 3500 3500 (fun _ => none) μ2 := hF5 _ _
  refine x_dup C dL_law_3 rfl ?_
  refine x_callI (n := 0) (cc9 := 16) (ss9 := 805) (rest := [.ref a1]) C dL_law_4 (c_X8_init (kxL E) C.st G z μ2 a1 hO4) gL_law_X8_init rfl (by decide +kernel) (by decide +kernel) (by decide +kernel) rfl (by decide +kernel) ⟨(Nat.le_of_ble_eq_true rfl), (Nat.le_of_ble_eq_true rfl)⟩ rfl rfl (Nat.le_of_ble_eq_true rfl) rfl rfl ⟨(Nat.le_of_ble_eq_true rfl), (Nat.le_of_ble_eq_true rfl)⟩ nX_no (fun v7 μ8 hv9 => ?_)
  obtain ⟨hw10, hC, hF9⟩ := hv9
  subst hw10
  refine x_stk (stk' := [.ref a1]) rfl ?_
  refine x_astore_n (lv' := [(1, .ref a1), (0, .ref b)]) C dL_law_7 rfl (by decide) rfl ?_
  refine z_new (ci := 10) (Cn := RX9) (T := TX9) (N := 29) (cc9 := 17) (ss9 := 834) (fs := [.null, .null, .null, .null, .null, .null, .null, .int (zI 0), .null, .null, .null, .null, .int (zI 0), .null, .null, .null, .null, .null, .int (zI 0), .null, .null, .null, .null, .int (zI 0), .int (zI 0), .int (zI 0), .null, .int (zI 0), .null]) C 3000 dL_law_8 in_X9 rfl tyX9 tyX9_ok (by decide +kernel) (by decide +kernel) (by decide +kernel) (fun j hj => by rcases (show j = 0 ∨ j = 1 ∨ j = 2 ∨ j = 3 ∨ j = 4 ∨ j = 5 ∨ j = 6 ∨ j = 7 ∨ j = 8 ∨ j = 9 ∨ j = 10 ∨ j = 11 ∨ j = 12 ∨ j = 13 ∨ j = 14 ∨ j = 15 ∨ j = 16 ∨ j = 17 ∨ j = 18 ∨ j = 19 ∨ j = 20 ∨ j = 21 ∨ j = 22 ∨ j = 23 ∨ j = 24 ∨ j = 25 ∨ j = 26 ∨ j = 27 ∨ j = 28 by omega) with rfl | rfl | rfl | rfl | rfl | rfl | rfl | rfl | rfl | rfl | rfl | rfl | rfl | rfl | rfl | rfl | rfl | rfl | rfl | rfl | rfl | rfl | rfl | rfl | rfl | rfl | rfl | rfl | rfl <;> rfl) rfl rfl (Nat.le_of_ble_eq_true rfl) (Nat.le_of_ble_eq_true rfl) (fun a11 μ12 hq13 hO14 hF15 => ?_)
  have hF16 : Fr 3500 3500 μ8 μ12 := hF15 _ _
  have hC : RepC G z μ12 a1 s0 0 := hF16.repc hC
  refine x_dup C dL_law_11 rfl ?_
  refine x_callI (n := 0) (cc9 := 39) (ss9 := 1381) (rest := [.ref a11]) C dL_law_12 (c_X9_init (kxL E) C.st G z μ12 a11 hO14) gL_law_X9_init rfl (by decide +kernel) (by decide +kernel) (by decide +kernel) rfl (by decide +kernel) ⟨(Nat.le_of_ble_eq_true rfl), (Nat.le_of_ble_eq_true rfl)⟩ rfl rfl (Nat.le_of_ble_eq_true rfl) rfl rfl ⟨(Nat.le_of_ble_eq_true rfl), (Nat.le_of_ble_eq_true rfl)⟩ nX_no (fun v17 μ18 hv19 => ?_)
  obtain ⟨hw20, hM, hF9⟩ := hv19
  subst hw20
  have hC : RepC G z μ18 a1 s0 0 := hF9.repc hC
  refine x_stk (stk' := [.ref a11]) rfl ?_
  refine x_astore_n (lv' := [(2, .ref a11), (1, .ref a1), (0, .ref b)]) C dL_law_15 rfl (by decide) rfl ?_
  refine z_iconst C dL_law_16 ?_
  refine x_newJ (N9 := 1) (cc9 := 40) (ss9 := 1382) C 4000 dL_law_17 (by decide +kernel) (by decide) (by decide) (by decide) rfl rfl (Nat.le_of_ble_eq_true rfl) (Nat.le_of_ble_eq_true rfl) (fun ou hq9 => ?_)
  have hF9 : Fr 4000 4001 μ18 (mU μ18 ou 4000 (eJ G 1 (fun _ => 0))) := mU_frn hq9
  have hC := hF9.repc hC
  have hM := hF9.repm hM
  have hOJ : OJx G (mU μ18 ou 4000 (eJ G 1 (fun _ => 0))) ou := ⟨_, _, mU_at, rfl⟩
  refine x_astore_n (lv' := [(3, .ref ou), (2, .ref a11), (1, .ref a1), (0, .ref b)]) C dL_law_19 rfl (by decide) rfl ?_
  refine z_iconst C dL_law_20 ?_
  refine x_istore (lv' := [(4, .int (zI 0)), (3, .ref ou), (2, .ref a11), (1, .ref a1), (0, .ref b)]) C dL_law_21 (by decide) rfl ?_
  refine x_sub (lv' := [(4, .int (zI 0)), (3, .ref ou), (2, .ref a11), (1, .ref a1), (0, .ref b)]) [0, 1, 2, 3, 4] rfl ?_
  exact x_wid (a := 100 + 8 * 0) (b := 2000 + 64 * 0) (Nat.le_of_ble_eq_true rfl) (Nat.le_of_ble_eq_true rfl) (law_loop C hSc kend _ 0 s0 0 _ rfl (Nat.zero_le _) hC hM hOJ Kv_0)
theorem whole_start {p : Program} {e : Env} {s : State} {m : MethodId} {below : List Frame} {meth : Method} {c : Code} (l : Launch) (hflags : l.flags = flags0) {b L : Nat} {xs : Nat → Int32} (hL : L ≤ 2560) (C0 : lw_At p s m meth c b L xs) : W p l e room_1 s m #[Value.ref b] below meth c s.heap [] 0 0 (lw_Z below #[Value.ref b] s) (entryFrame m ([Value.ref b] : List Value).toArray 7) := by
  obtain ⟨G, z, C⟩ := law_cx (e := e) (below := below) l hflags C0
  obtain ⟨hx, hb, hr, hml, hown, hts, hX, hbl, hlocks, hgv⟩ := C0
  have h0 := law_start C (b := b) (L := L) (xs := xs) ⟨hX, hbl, Nat.not_le.mpr hbl, hL⟩ (fun cells slots lv μ h1 h2 => by
    refine z_iconst C dL_law_1807 ?_
    intro H locs ls hM hS hl
    exact W.widen h1 h2 (va_forget hS.2.2 (lw_ret hx hb hr hlocks dL_law_1808)))
  rw [lg_entry_eq]
  have hl := lv_entry ([.ref b]) (n := 7) (Nat.le_of_ble_eq_true rfl)
  have hM : Hm G (fun q : Nat => s.heap.size ≤ q) (fun _ => none) s.heap := by
    refine ⟨[], fun _ => .inr (0, []), fun a r e h => ?_, fun a ha => absurd ha List.not_mem_nil, fun k q h => ?_, fun i j p q h => ?_, fun k q h => ?_⟩
    · cases h
    · simp [va_pl] at h
    · simp [va_pl] at h
    · simp [va_pl] at h
  refine h0 s.heap [] _ hM va_S.rf ?_
  show lv_has _ c.maxLocals _
  rw [hml]
  exact hl
