abbrev rm_X8_requirePlace : Room := { frames := 6, cells := 1, slots := 6, locals := 89 }
set_option maxHeartbeats 4000000 in
set_option maxRecDepth 100000 in
theorem c_X8_requirePlace (l : Launch) (hst : l.stackTraces = false) (G : GG) (z : Nat) (μ : Mm) (p : Int) (hp : -2147483648 ≤ p ∧ p < 2147483648) : Ct l yX8_requirePlace wsX8_requirePlace rm_X8_requirePlace G z [.int (zI p)] μ (fun v μ' => v = none ∧ (0 ≤ p ∧ p < 64) ∧ μ' = μ) (fun En => En = "java/lang/IndexOutOfBoundsException" ∧ ¬ (0 ≤ p ∧ p < 64)) := by
  refine ct_of (cc := cX8_requirePlace) (maxL := 1) (ret := none) (own := RX8) (by decide) rfl rfl hst (Nat.le_of_ble_eq_true rfl) ?_
  intro E hLl hnm C R hT
  refine x_eq (lv' := [(0, .int (zI p))]) rfl rfl ?_
  refine x_iload_n C dX8_requirePlace_0 rfl 0 rfl ?_
  refine x_callS (n := 1) (cc9 := 0) (ss9 := 0) (rest := []) C dX8_requirePlace_1 (c_X3_isPlace (kxL E) C.st G z μ p (by omega)) gX8_requirePlace_X3_isPlace rfl (by decide +kernel) ⟨(Nat.le_of_ble_eq_true rfl), (Nat.le_of_ble_eq_true rfl)⟩ rfl rfl (Nat.le_of_ble_eq_true rfl) rfl rfl ⟨(Nat.le_of_ble_eq_true rfl), (Nat.le_of_ble_eq_true rfl)⟩ nX_no (fun v1 μ2 hv3 => ?_)
  obtain ⟨r4, hw7, h5, hm6⟩ := hv3
  subst hw7
  rw [hm6]
  refine x_stk (stk' := [.int (zI r4)]) rfl ?_
  refine z_if_ne (tgt := 15) C dX8_requirePlace_4 (by decide) (rg_of (by omega) (by omega)) (fun c_8 => ?_) (fun c_8 => ?_)
  · exact x_vret C R dX8_requirePlace_15 (Nat.le_of_ble_eq_true rfl) (Nat.le_of_ble_eq_true rfl) (⟨rfl, by omega, rfl⟩)
  · exact x_throw (En := "java/lang/IndexOutOfBoundsException") (names := ["java/lang/RuntimeException", "java/lang/Exception"]) C R hT dX8_requirePlace_7 dX8_requirePlace_10 dX8_requirePlace_11 dX8_requirePlace_14 (by decide +kernel) (by decide +kernel) (by decide +kernel) (by decide +kernel) (by decide +kernel) (by decide +kernel) (by decide +kernel) (Nat.le_of_ble_eq_true rfl) (Nat.le_of_ble_eq_true rfl) (Nat.le_of_ble_eq_true rfl) (Nat.le_of_ble_eq_true rfl) (⟨rfl, by omega⟩) (Nat.le_of_ble_eq_true rfl) (Nat.le_of_ble_eq_true rfl)
abbrev rm_X8_requireStage : Room := { frames := 6, cells := 1, slots := 6, locals := 89 }
set_option maxHeartbeats 4000000 in
set_option maxRecDepth 100000 in
theorem c_X8_requireStage (l : Launch) (hst : l.stackTraces = false) (G : GG) (z : Nat) (μ : Mm) (a : Nat) (σ : SS) (ld wy sp sl wl wp ch dr nS nW nD nL nV nC : Nat) (xs ys : Nat → Nat) (so sc En S T : Nat → Int) (k : Int) (hX9 : RepX G z μ a σ ld wy sp sl wl wp ch dr nS nW nD nL nV nC xs ys so sc En S T) (hk : -2147483648 ≤ k ∧ k < 2147483648) : Ct l yX8_requireStage wsX8_requireStage rm_X8_requireStage G z [.ref a, .int (zI k)] μ (fun v μ' => ∃ r9, v = some (.ref r9) ∧ (∃ i : Nat, k = (i : Int) ∧ i < nS ∧ r9 = xs i) ∧ μ' = μ) (fun En => En = "java/lang/IndexOutOfBoundsException" ∧ ¬ (0 ≤ k ∧ k < σ 7 0)) := by
  refine ct_of (cc := cX8_requireStage) (maxL := 2) (ret := (some (.object "CairnCipher$Stage"))) (own := RX8) (by decide) rfl rfl hst (Nat.le_of_ble_eq_true rfl) ?_
  intro E hLl hnm C R hT
  have in_X8 : ∀ w ∈ u_ws RX8 TX8 10, w ∈ wsX8_requireStage := by decide +kernel
  have hX8 := hX9
  obtain ⟨hO, hL, hY, hSp, hSl, hWl, hWp, hCh, hDr, hSt, hWk, ⟨n7, n12, n6, n11, n18, n7r, n12r, n18r⟩, hIc⟩ := hX9
  refine x_eq (lv' := [(0, .ref a), (1, .int (zI k))]) rfl rfl ?_
  refine x_iload_n C dX8_requireStage_0 rfl 1 rfl ?_
  refine z_if_lt (tgt := 15) C dX8_requireStage_1 (by decide) (rg_of (by omega) (by omega)) (fun c_1 => ?_) (fun c_1 => ?_)
  · exact x_throw (En := "java/lang/IndexOutOfBoundsException") (names := ["java/lang/RuntimeException", "java/lang/Exception"]) C R hT dX8_requireStage_15 dX8_requireStage_18 dX8_requireStage_19 dX8_requireStage_22 (by decide +kernel) (by decide +kernel) (by decide +kernel) (by decide +kernel) (by decide +kernel) (by decide +kernel) (by decide +kernel) (Nat.le_of_ble_eq_true rfl) (Nat.le_of_ble_eq_true rfl) (Nat.le_of_ble_eq_true rfl) (Nat.le_of_ble_eq_true rfl) (⟨rfl, by omega⟩) (Nat.le_of_ble_eq_true rfl) (Nat.le_of_ble_eq_true rfl)
  · refine x_iload_n C dX8_requireStage_4 rfl 1 rfl ?_
    refine x_aload_n C dX8_requireStage_5 rfl 0 rfl ?_
    refine x_get (ci := 9) (Cn := RX8) (T := TX8) (N := 10) (ref := "CairnCipher") C dX8_requireStage_6 in_X8 rfl hO 3 (by decide) (by decide +kernel) rfl rfl ?_
    refine x_callV (n := 0) (ci := 0) (Cn := RJx4a65c) (T := TJx4a65c) (N := 3) (cc9 := 0) (ss9 := 0) (rest := [.int (zI k)]) C dX8_requireStage_9 (c_Jx4a65c_size_8abf5 (kxL E) C.st G z μ _ _ _ _ hSl) gX8_requireStage_Jx4a65c_size_8abf5 rfl (by decide +kernel) ⟨(Nat.le_of_ble_eq_true rfl), (Nat.le_of_ble_eq_true rfl)⟩ rfl hSl.ob rfl rfl (Nat.le_of_ble_eq_true rfl) rfl rfl ⟨(Nat.le_of_ble_eq_true rfl), (Nat.le_of_ble_eq_true rfl)⟩ nX_no (fun v2 μ3 hv4 => ?_)
    obtain ⟨r5, hw8, h6, hm7⟩ := hv4
    subst hw8
    rw [hm7]
    refine x_stk (stk' := [.int (zI r5), .int (zI k)]) rfl ?_
    refine z_icmp_lt (tgt := 23) C dX8_requireStage_12 (by decide) (rg_of (by omega) (by omega)) (rg_of (by omega) (by omega)) (fun c_9 => ?_) (fun c_9 => ?_)
    · obtain ⟨i, rfl⟩ : ∃ i : Nat, k = (i : Int) := ⟨k.toNat, by omega⟩
      refine x_aload_n C dX8_requireStage_23 rfl 0 rfl ?_
      refine x_get (ci := 9) (Cn := RX8) (T := TX8) (N := 10) (ref := "CairnCipher") C dX8_requireStage_24 in_X8 rfl hO 3 (by decide) (by decide +kernel) rfl rfl ?_
      refine x_iload_n C dX8_requireStage_27 rfl 1 rfl ?_
      refine x_callV (n := 1) (ci := 0) (Cn := RJx4a65c) (T := TJx4a65c) (N := 3) (cc9 := 0) (ss9 := 0) (rest := []) C dX8_requireStage_28 (c_Jx4a65c_get_915e3 (kxL E) C.st G z μ _ _ _ _ i hSl (by omega)) gX8_requireStage_Jx4a65c_get_915e3 rfl (by decide +kernel) ⟨(Nat.le_of_ble_eq_true rfl), (Nat.le_of_ble_eq_true rfl)⟩ rfl hSl.ob rfl rfl (Nat.le_of_ble_eq_true rfl) rfl rfl ⟨(Nat.le_of_ble_eq_true rfl), (Nat.le_of_ble_eq_true rfl)⟩ nX_no (fun v10 μ11 hv12 => ?_)
      obtain ⟨r13, hw16, h14, hm15⟩ := hv12
      subst hw16
      rw [hm15]
      obtain ⟨W8, hW8, hSg⟩ := hSt i (by omega) (by omega)
      rw [← h14] at hSg
      refine x_stk (stk' := [.ref r13]) rfl ?_
      refine x_cast (ci := 5) (Cn := RX4) (T := TX4) (N := 4) C dX8_requireStage_31 rfl hSg.ob (by decide +kernel) ?_
      exact x_aret C R dX8_requireStage_34 (by first | exact Or.inl ⟨_, rfl⟩ | exact Or.inr ⟨_, rfl⟩) (Nat.le_of_ble_eq_true rfl) (Nat.le_of_ble_eq_true rfl) (⟨_, rfl, ⟨i, rfl, by omega, by assumption⟩, rfl⟩)
    · exact x_throw (En := "java/lang/IndexOutOfBoundsException") (names := ["java/lang/RuntimeException", "java/lang/Exception"]) C R hT dX8_requireStage_15 dX8_requireStage_18 dX8_requireStage_19 dX8_requireStage_22 (by decide +kernel) (by decide +kernel) (by decide +kernel) (by decide +kernel) (by decide +kernel) (by decide +kernel) (by decide +kernel) (Nat.le_of_ble_eq_true rfl) (Nat.le_of_ble_eq_true rfl) (Nat.le_of_ble_eq_true rfl) (Nat.le_of_ble_eq_true rfl) (⟨rfl, by omega⟩) (Nat.le_of_ble_eq_true rfl) (Nat.le_of_ble_eq_true rfl)
abbrev rm_X8_requireWalker : Room := { frames := 6, cells := 1, slots := 6, locals := 89 }
set_option maxHeartbeats 4000000 in
set_option maxRecDepth 100000 in
theorem c_X8_requireWalker (l : Launch) (hst : l.stackTraces = false) (G : GG) (z : Nat) (μ : Mm) (a : Nat) (σ : SS) (ld wy sp sl wl wp ch dr nS nW nD nL nV nC : Nat) (xs ys : Nat → Nat) (so sc En S T : Nat → Int) (k : Int) (hX9 : RepX G z μ a σ ld wy sp sl wl wp ch dr nS nW nD nL nV nC xs ys so sc En S T) (hk : -2147483648 ≤ k ∧ k < 2147483648) : Ct l yX8_requireWalker wsX8_requireWalker rm_X8_requireWalker G z [.ref a, .int (zI k)] μ (fun v μ' => ∃ r9, v = some (.ref r9) ∧ (∃ i : Nat, k = (i : Int) ∧ i < nW ∧ r9 = ys i) ∧ μ' = μ) (fun En => En = "java/lang/IndexOutOfBoundsException" ∧ ¬ (0 ≤ k ∧ k < σ 12 0)) := by
  refine ct_of (cc := cX8_requireWalker) (maxL := 2) (ret := (some (.object "CairnCipher$Walker"))) (own := RX8) (by decide) rfl rfl hst (Nat.le_of_ble_eq_true rfl) ?_
  intro E hLl hnm C R hT
  have in_X8 : ∀ w ∈ u_ws RX8 TX8 10, w ∈ wsX8_requireWalker := by decide +kernel
  have hX8 := hX9
  obtain ⟨hO, hL, hY, hSp, hSl, hWl, hWp, hCh, hDr, hSt, hWk, ⟨n7, n12, n6, n11, n18, n7r, n12r, n18r⟩, hIc⟩ := hX9
  refine x_eq (lv' := [(0, .ref a), (1, .int (zI k))]) rfl rfl ?_
  refine x_iload_n C dX8_requireWalker_0 rfl 1 rfl ?_
  refine z_if_lt (tgt := 15) C dX8_requireWalker_1 (by decide) (rg_of (by omega) (by omega)) (fun c_1 => ?_) (fun c_1 => ?_)
  · exact x_throw (En := "java/lang/IndexOutOfBoundsException") (names := ["java/lang/RuntimeException", "java/lang/Exception"]) C R hT dX8_requireWalker_15 dX8_requireWalker_18 dX8_requireWalker_19 dX8_requireWalker_22 (by decide +kernel) (by decide +kernel) (by decide +kernel) (by decide +kernel) (by decide +kernel) (by decide +kernel) (by decide +kernel) (Nat.le_of_ble_eq_true rfl) (Nat.le_of_ble_eq_true rfl) (Nat.le_of_ble_eq_true rfl) (Nat.le_of_ble_eq_true rfl) (⟨rfl, by omega⟩) (Nat.le_of_ble_eq_true rfl) (Nat.le_of_ble_eq_true rfl)
  · refine x_iload_n C dX8_requireWalker_4 rfl 1 rfl ?_
    refine x_aload_n C dX8_requireWalker_5 rfl 0 rfl ?_
    refine x_get (ci := 9) (Cn := RX8) (T := TX8) (N := 10) (ref := "CairnCipher") C dX8_requireWalker_6 in_X8 rfl hO 4 (by decide) (by decide +kernel) rfl rfl ?_
    refine x_callV (n := 0) (ci := 0) (Cn := RJx4a65c) (T := TJx4a65c) (N := 3) (cc9 := 0) (ss9 := 0) (rest := [.int (zI k)]) C dX8_requireWalker_9 (c_Jx4a65c_size_8abf5 (kxL E) C.st G z μ _ _ _ _ hWl) gX8_requireWalker_Jx4a65c_size_8abf5 rfl (by decide +kernel) ⟨(Nat.le_of_ble_eq_true rfl), (Nat.le_of_ble_eq_true rfl)⟩ rfl hWl.ob rfl rfl (Nat.le_of_ble_eq_true rfl) rfl rfl ⟨(Nat.le_of_ble_eq_true rfl), (Nat.le_of_ble_eq_true rfl)⟩ nX_no (fun v2 μ3 hv4 => ?_)
    obtain ⟨r5, hw8, h6, hm7⟩ := hv4
    subst hw8
    rw [hm7]
    refine x_stk (stk' := [.int (zI r5), .int (zI k)]) rfl ?_
    refine z_icmp_lt (tgt := 23) C dX8_requireWalker_12 (by decide) (rg_of (by omega) (by omega)) (rg_of (by omega) (by omega)) (fun c_9 => ?_) (fun c_9 => ?_)
    · obtain ⟨i, rfl⟩ : ∃ i : Nat, k = (i : Int) := ⟨k.toNat, by omega⟩
      refine x_aload_n C dX8_requireWalker_23 rfl 0 rfl ?_
      refine x_get (ci := 9) (Cn := RX8) (T := TX8) (N := 10) (ref := "CairnCipher") C dX8_requireWalker_24 in_X8 rfl hO 4 (by decide) (by decide +kernel) rfl rfl ?_
      refine x_iload_n C dX8_requireWalker_27 rfl 1 rfl ?_
      refine x_callV (n := 1) (ci := 0) (Cn := RJx4a65c) (T := TJx4a65c) (N := 3) (cc9 := 0) (ss9 := 0) (rest := []) C dX8_requireWalker_28 (c_Jx4a65c_get_915e3 (kxL E) C.st G z μ _ _ _ _ i hWl (by omega)) gX8_requireWalker_Jx4a65c_get_915e3 rfl (by decide +kernel) ⟨(Nat.le_of_ble_eq_true rfl), (Nat.le_of_ble_eq_true rfl)⟩ rfl hWl.ob rfl rfl (Nat.le_of_ble_eq_true rfl) rfl rfl ⟨(Nat.le_of_ble_eq_true rfl), (Nat.le_of_ble_eq_true rfl)⟩ nX_no (fun v10 μ11 hv12 => ?_)
      obtain ⟨r13, hw16, h14, hm15⟩ := hv12
      subst hw16
      rw [hm15]
      have hSg := hWk i (by omega) (by omega)
      rw [← h14] at hSg
      refine x_stk (stk' := [.ref r13]) rfl ?_
      refine x_cast (ci := 7) (Cn := RX6) (T := TX6) (N := 9) C dX8_requireWalker_31 rfl hSg.ob (by decide +kernel) ?_
      exact x_aret C R dX8_requireWalker_34 (by first | exact Or.inl ⟨_, rfl⟩ | exact Or.inr ⟨_, rfl⟩) (Nat.le_of_ble_eq_true rfl) (Nat.le_of_ble_eq_true rfl) (⟨_, rfl, ⟨i, rfl, by omega, by assumption⟩, rfl⟩)
    · exact x_throw (En := "java/lang/IndexOutOfBoundsException") (names := ["java/lang/RuntimeException", "java/lang/Exception"]) C R hT dX8_requireWalker_15 dX8_requireWalker_18 dX8_requireWalker_19 dX8_requireWalker_22 (by decide +kernel) (by decide +kernel) (by decide +kernel) (by decide +kernel) (by decide +kernel) (by decide +kernel) (by decide +kernel) (Nat.le_of_ble_eq_true rfl) (Nat.le_of_ble_eq_true rfl) (Nat.le_of_ble_eq_true rfl) (Nat.le_of_ble_eq_true rfl) (⟨rfl, by omega⟩) (Nat.le_of_ble_eq_true rfl) (Nat.le_of_ble_eq_true rfl)
abbrev rm_X8_placeOf : Room := { frames := 7, cells := 1, slots := 6, locals := 110 }
set_option maxHeartbeats 4000000 in
set_option maxRecDepth 100000 in
theorem c_X8_placeOf (l : Launch) (hst : l.stackTraces = false) (G : GG) (z : Nat) (μ : Mm) (a : Nat) (σ : SS) (n : Nat) (k : Int) (hC9 : RepC G z μ a σ n) (hI : Iv σ n) (hk : -2147483648 ≤ k ∧ k < 2147483648) : Ct l yX8_placeOf wsX8_placeOf rm_X8_placeOf G z [.ref a, .int (zI k)] μ (rP μ (fun r9 => t_st σ k = 0 ∧ r9 = σ 8 k.toNat)) (fun En => (En = "java/lang/IndexOutOfBoundsException" ∧ t_st σ k = 1)) := by
  refine ct_of (cc := cX8_placeOf) (maxL := 2) (ret := (some .int)) (own := RX8) (by decide) rfl rfl hst (Nat.le_of_ble_eq_true rfl) ?_
  intro E hLl hnm C R hT
  have hC8 := hC9
  obtain ⟨ld, wy, sp, sl, wl, wp, ch, dr, nS, nW, nD, nL, nV, nC, xs, ys, so, sc, En, S, T, hnC, hX9⟩ := hC9
  have hX8 := hX9
  obtain ⟨hO, hL, hY, hSp, hSl, hWl, hWp, hCh, hDr, hSt, hWk, ⟨n7, n12, n6, n11, n18, n7r, n12r, n18r⟩, hIc⟩ := hX9
  have hnL := hSp.le
  have hnD := hDr.le
  refine x_eq (lv' := [(0, .ref a), (1, .int (zI k))]) rfl rfl ?_
  refine x_aload_n C dX8_placeOf_0 rfl 0 rfl ?_
  refine x_iload_n C dX8_placeOf_1 rfl 1 rfl ?_
  refine x_callV (n := 1) (ci := 9) (Cn := RX8) (T := TX8) (N := 10) (cc9 := 1) (ss9 := 6) (rest := []) C dX8_placeOf_2 (c_X8_requireStage (kxL E) C.st G z μ _ _ _ _ _ _ _ _ _ _ _ _ _ _ _ _ _ _ _ _ _ _ _ k hX8 (by omega)) gX8_placeOf_X8_requireStage rfl (by decide +kernel) ⟨(Nat.le_of_ble_eq_true rfl), (Nat.le_of_ble_eq_true rfl)⟩ rfl ⟨_, _, hO⟩ rfl rfl (Nat.le_of_ble_eq_true rfl) rfl rfl ⟨(Nat.le_of_ble_eq_true rfl), (Nat.le_of_ble_eq_true rfl)⟩ (fun En hEn => x_out C R hT (⟨hEn.1, by unfold t_st; rw [if_neg hEn.2]⟩) (Nat.le_of_ble_eq_true rfl) (Nat.le_of_ble_eq_true rfl)) (fun v1 μ2 hv3 => ?_)
  obtain ⟨r4, hw7, h5, hm6⟩ := hv3
  subst hw7
  rw [hm6]
  obtain ⟨i9, hi9, hi8, hr9⟩ := h5
  have hts : t_st σ k = 0 := by unfold t_st; rw [if_pos (by omega)]
  obtain ⟨W9, hW9, hSg⟩ := hSt i9 (by omega) hi8
  rw [← hr9] at hSg
  refine x_stk (stk' := [.ref r4]) rfl ?_
  refine x_callV (n := 0) (ci := 5) (Cn := RX4) (T := TX4) (N := 4) (cc9 := 1) (ss9 := 6) (rest := []) C dX8_placeOf_5 (c_X4_standsAt (kxL E) C.st G z μ _ _ _ _ _ _ _ _ _  hSg ) gX8_placeOf_X4_standsAt rfl (by decide +kernel) ⟨(Nat.le_of_ble_eq_true rfl), (Nat.le_of_ble_eq_true rfl)⟩ rfl hSg.ob rfl rfl (Nat.le_of_ble_eq_true rfl) rfl rfl ⟨(Nat.le_of_ble_eq_true rfl), (Nat.le_of_ble_eq_true rfl)⟩ nX_no (fun v8 μ9 hv10 => ?_)
  obtain ⟨r11, hw14, h12, hm13⟩ := hv10
  subst hw14
  rw [hm13]
  have hb9 := h12
  refine x_stk (stk' := [.int (zI r11)]) rfl ?_
  exact x_iret C R dX8_placeOf_8 (Nat.le_of_ble_eq_true rfl) (Nat.le_of_ble_eq_true rfl) (⟨_, rfl, ⟨hts, by rw [hb9, hi9, Int.toNat_natCast]⟩, rfl⟩)
abbrev rm_X8_moves : Room := { frames := 7, cells := 1, slots := 6, locals := 110 }
set_option maxHeartbeats 4000000 in
set_option maxRecDepth 100000 in
theorem c_X8_moves (l : Launch) (hst : l.stackTraces = false) (G : GG) (z : Nat) (μ : Mm) (a : Nat) (σ : SS) (n : Nat) (k : Int) (hC9 : RepC G z μ a σ n) (hI : Iv σ n) (hk : -2147483648 ≤ k ∧ k < 2147483648) : Ct l yX8_moves wsX8_moves rm_X8_moves G z [.ref a, .int (zI k)] μ (rP μ (fun r9 => t_st σ k = 0 ∧ r9 = σ 9 k.toNat)) (fun En => (En = "java/lang/IndexOutOfBoundsException" ∧ t_st σ k = 1)) := by
  refine ct_of (cc := cX8_moves) (maxL := 2) (ret := (some .int)) (own := RX8) (by decide) rfl rfl hst (Nat.le_of_ble_eq_true rfl) ?_
  intro E hLl hnm C R hT
  have hC8 := hC9
  obtain ⟨ld, wy, sp, sl, wl, wp, ch, dr, nS, nW, nD, nL, nV, nC, xs, ys, so, sc, En, S, T, hnC, hX9⟩ := hC9
  have hX8 := hX9
  obtain ⟨hO, hL, hY, hSp, hSl, hWl, hWp, hCh, hDr, hSt, hWk, ⟨n7, n12, n6, n11, n18, n7r, n12r, n18r⟩, hIc⟩ := hX9
  have hnL := hSp.le
  have hnD := hDr.le
  refine x_eq (lv' := [(0, .ref a), (1, .int (zI k))]) rfl rfl ?_
  refine x_aload_n C dX8_moves_0 rfl 0 rfl ?_
  refine x_iload_n C dX8_moves_1 rfl 1 rfl ?_
  refine x_callV (n := 1) (ci := 9) (Cn := RX8) (T := TX8) (N := 10) (cc9 := 1) (ss9 := 6) (rest := []) C dX8_moves_2 (c_X8_requireStage (kxL E) C.st G z μ _ _ _ _ _ _ _ _ _ _ _ _ _ _ _ _ _ _ _ _ _ _ _ k hX8 (by omega)) gX8_moves_X8_requireStage rfl (by decide +kernel) ⟨(Nat.le_of_ble_eq_true rfl), (Nat.le_of_ble_eq_true rfl)⟩ rfl ⟨_, _, hO⟩ rfl rfl (Nat.le_of_ble_eq_true rfl) rfl rfl ⟨(Nat.le_of_ble_eq_true rfl), (Nat.le_of_ble_eq_true rfl)⟩ (fun En hEn => x_out C R hT (⟨hEn.1, by unfold t_st; rw [if_neg hEn.2]⟩) (Nat.le_of_ble_eq_true rfl) (Nat.le_of_ble_eq_true rfl)) (fun v1 μ2 hv3 => ?_)
  obtain ⟨r4, hw7, h5, hm6⟩ := hv3
  subst hw7
  rw [hm6]
  obtain ⟨i9, hi9, hi8, hr9⟩ := h5
  have hts : t_st σ k = 0 := by unfold t_st; rw [if_pos (by omega)]
  obtain ⟨W9, hW9, hSg⟩ := hSt i9 (by omega) hi8
  rw [← hr9] at hSg
  refine x_stk (stk' := [.ref r4]) rfl ?_
  refine x_callV (n := 0) (ci := 5) (Cn := RX4) (T := TX4) (N := 4) (cc9 := 1) (ss9 := 6) (rest := []) C dX8_moves_5 (c_X4_moveCount (kxL E) C.st G z μ _ _ _ _ _ _ _ _ _  hSg ) gX8_moves_X4_moveCount rfl (by decide +kernel) ⟨(Nat.le_of_ble_eq_true rfl), (Nat.le_of_ble_eq_true rfl)⟩ rfl hSg.ob rfl rfl (Nat.le_of_ble_eq_true rfl) rfl rfl ⟨(Nat.le_of_ble_eq_true rfl), (Nat.le_of_ble_eq_true rfl)⟩ nX_no (fun v8 μ9 hv10 => ?_)
  obtain ⟨r11, hw14, h12, hm13⟩ := hv10
  subst hw14
  rw [hm13]
  have hb9 := h12
  refine x_stk (stk' := [.int (zI r11)]) rfl ?_
  exact x_iret C R dX8_moves_8 (Nat.le_of_ble_eq_true rfl) (Nat.le_of_ble_eq_true rfl) (⟨_, rfl, ⟨hts, by rw [hb9, hi9, Int.toNat_natCast]⟩, rfl⟩)
abbrev rm_X8_at : Room := { frames := 7, cells := 1, slots := 6, locals := 110 }
set_option maxHeartbeats 4000000 in
set_option maxRecDepth 100000 in
theorem c_X8_at (l : Launch) (hst : l.stackTraces = false) (G : GG) (z : Nat) (μ : Mm) (a : Nat) (σ : SS) (n : Nat) (k : Int) (hC9 : RepC G z μ a σ n) (hI : Iv σ n) (hk : -2147483648 ≤ k ∧ k < 2147483648) : Ct l yX8_at wsX8_at rm_X8_at G z [.ref a, .int (zI k)] μ (rP μ (fun r9 => t_wk σ k = 0 ∧ r9 = σ 14 k.toNat)) (fun En => (En = "java/lang/IndexOutOfBoundsException" ∧ t_wk σ k = 1)) := by
  refine ct_of (cc := cX8_at) (maxL := 2) (ret := (some .int)) (own := RX8) (by decide) rfl rfl hst (Nat.le_of_ble_eq_true rfl) ?_
  intro E hLl hnm C R hT
  have hC8 := hC9
  obtain ⟨ld, wy, sp, sl, wl, wp, ch, dr, nS, nW, nD, nL, nV, nC, xs, ys, so, sc, En, S, T, hnC, hX9⟩ := hC9
  have hX8 := hX9
  obtain ⟨hO, hL, hY, hSp, hSl, hWl, hWp, hCh, hDr, hSt, hWk, ⟨n7, n12, n6, n11, n18, n7r, n12r, n18r⟩, hIc⟩ := hX9
  have hnL := hSp.le
  have hnD := hDr.le
  refine x_eq (lv' := [(0, .ref a), (1, .int (zI k))]) rfl rfl ?_
  refine x_aload_n C dX8_at_0 rfl 0 rfl ?_
  refine x_iload_n C dX8_at_1 rfl 1 rfl ?_
  refine x_callV (n := 1) (ci := 9) (Cn := RX8) (T := TX8) (N := 10) (cc9 := 1) (ss9 := 6) (rest := []) C dX8_at_2 (c_X8_requireWalker (kxL E) C.st G z μ _ _ _ _ _ _ _ _ _ _ _ _ _ _ _ _ _ _ _ _ _ _ _ k hX8 (by omega)) gX8_at_X8_requireWalker rfl (by decide +kernel) ⟨(Nat.le_of_ble_eq_true rfl), (Nat.le_of_ble_eq_true rfl)⟩ rfl ⟨_, _, hO⟩ rfl rfl (Nat.le_of_ble_eq_true rfl) rfl rfl ⟨(Nat.le_of_ble_eq_true rfl), (Nat.le_of_ble_eq_true rfl)⟩ (fun En hEn => x_out C R hT (⟨hEn.1, by unfold t_wk; rw [if_neg hEn.2]⟩) (Nat.le_of_ble_eq_true rfl) (Nat.le_of_ble_eq_true rfl)) (fun v1 μ2 hv3 => ?_)
  obtain ⟨r4, hw7, h5, hm6⟩ := hv3
  subst hw7
  rw [hm6]
  obtain ⟨i9, hi9, hi8, hr9⟩ := h5
  have hts : t_wk σ k = 0 := by unfold t_wk; rw [if_pos (by omega)]
  have hWa := hWk i9 (by omega) hi8
  rw [← hr9] at hWa
  refine x_stk (stk' := [.ref r4]) rfl ?_
  refine x_callV (n := 0) (ci := 7) (Cn := RX6) (T := TX6) (N := 9) (cc9 := 1) (ss9 := 6) (rest := []) C dX8_at_5 (c_X6_standsAt (kxL E) C.st G z μ _ _ _ _ _ _ _ _ _ _ _  hWa ) gX8_at_X6_standsAt rfl (by decide +kernel) ⟨(Nat.le_of_ble_eq_true rfl), (Nat.le_of_ble_eq_true rfl)⟩ rfl hWa.ob rfl rfl (Nat.le_of_ble_eq_true rfl) rfl rfl ⟨(Nat.le_of_ble_eq_true rfl), (Nat.le_of_ble_eq_true rfl)⟩ nX_no (fun v8 μ9 hv10 => ?_)
  obtain ⟨r11, hw14, h12, hm13⟩ := hv10
  subst hw14
  rw [hm13]
  have hb9 := h12
  refine x_stk (stk' := [.int (zI r11)]) rfl ?_
  exact x_iret C R dX8_at_8 (Nat.le_of_ble_eq_true rfl) (Nat.le_of_ble_eq_true rfl) (⟨_, rfl, ⟨hts, by rw [hb9, hi9, Int.toNat_natCast]⟩, rfl⟩)
abbrev rm_X8_rests : Room := { frames := 7, cells := 1, slots := 6, locals := 110 }
set_option maxHeartbeats 4000000 in
set_option maxRecDepth 100000 in
theorem c_X8_rests (l : Launch) (hst : l.stackTraces = false) (G : GG) (z : Nat) (μ : Mm) (a : Nat) (σ : SS) (n : Nat) (k : Int) (hC9 : RepC G z μ a σ n) (hI : Iv σ n) (hk : -2147483648 ≤ k ∧ k < 2147483648) : Ct l yX8_rests wsX8_rests rm_X8_rests G z [.ref a, .int (zI k)] μ (rP μ (fun r9 => t_wk σ k = 0 ∧ r9 = (if σ 15 k.toNat = -1 ∧ σ 16 k.toNat = -1 then 1 else 0))) (fun En => (En = "java/lang/IndexOutOfBoundsException" ∧ t_wk σ k = 1)) := by
  refine ct_of (cc := cX8_rests) (maxL := 2) (ret := (some .boolean)) (own := RX8) (by decide) rfl rfl hst (Nat.le_of_ble_eq_true rfl) ?_
  intro E hLl hnm C R hT
  have hC8 := hC9
  obtain ⟨ld, wy, sp, sl, wl, wp, ch, dr, nS, nW, nD, nL, nV, nC, xs, ys, so, sc, En, S, T, hnC, hX9⟩ := hC9
  have hX8 := hX9
  obtain ⟨hO, hL, hY, hSp, hSl, hWl, hWp, hCh, hDr, hSt, hWk, ⟨n7, n12, n6, n11, n18, n7r, n12r, n18r⟩, hIc⟩ := hX9
  have hnL := hSp.le
  have hnD := hDr.le
  refine x_eq (lv' := [(0, .ref a), (1, .int (zI k))]) rfl rfl ?_
  refine x_aload_n C dX8_rests_0 rfl 0 rfl ?_
  refine x_iload_n C dX8_rests_1 rfl 1 rfl ?_
  refine x_callV (n := 1) (ci := 9) (Cn := RX8) (T := TX8) (N := 10) (cc9 := 1) (ss9 := 6) (rest := []) C dX8_rests_2 (c_X8_requireWalker (kxL E) C.st G z μ _ _ _ _ _ _ _ _ _ _ _ _ _ _ _ _ _ _ _ _ _ _ _ k hX8 (by omega)) gX8_rests_X8_requireWalker rfl (by decide +kernel) ⟨(Nat.le_of_ble_eq_true rfl), (Nat.le_of_ble_eq_true rfl)⟩ rfl ⟨_, _, hO⟩ rfl rfl (Nat.le_of_ble_eq_true rfl) rfl rfl ⟨(Nat.le_of_ble_eq_true rfl), (Nat.le_of_ble_eq_true rfl)⟩ (fun En hEn => x_out C R hT (⟨hEn.1, by unfold t_wk; rw [if_neg hEn.2]⟩) (Nat.le_of_ble_eq_true rfl) (Nat.le_of_ble_eq_true rfl)) (fun v1 μ2 hv3 => ?_)
  obtain ⟨r4, hw7, h5, hm6⟩ := hv3
  subst hw7
  rw [hm6]
  obtain ⟨i9, hi9, hi8, hr9⟩ := h5
  have hts : t_wk σ k = 0 := by unfold t_wk; rw [if_pos (by omega)]
  have hWa := hWk i9 (by omega) hi8
  rw [← hr9] at hWa
  refine x_stk (stk' := [.ref r4]) rfl ?_
  refine x_callV (n := 0) (ci := 7) (Cn := RX6) (T := TX6) (N := 9) (cc9 := 1) (ss9 := 6) (rest := []) C dX8_rests_5 (c_X6_isResting (kxL E) C.st G z μ _ _ _ _ _ _ _ _ _ _ _  hWa ) gX8_rests_X6_isResting rfl (by decide +kernel) ⟨(Nat.le_of_ble_eq_true rfl), (Nat.le_of_ble_eq_true rfl)⟩ rfl hWa.ob rfl rfl (Nat.le_of_ble_eq_true rfl) rfl rfl ⟨(Nat.le_of_ble_eq_true rfl), (Nat.le_of_ble_eq_true rfl)⟩ nX_no (fun v8 μ9 hv10 => ?_)
  obtain ⟨r11, hw14, h12, hm13⟩ := hv10
  subst hw14
  rw [hm13]
  have hb9 := h12
  refine x_stk (stk' := [.int (zI r11)]) rfl ?_
  exact x_zret C R dX8_rests_8 (nar_z (by omega)) (Nat.le_of_ble_eq_true rfl) (Nat.le_of_ble_eq_true rfl) (⟨_, rfl, ⟨hts, by (rw [hi9, Int.toNat_natCast]; split <;> omega)⟩, rfl⟩)
abbrev rm_X8_now : Room := { frames := 0, cells := 0, slots := 0, locals := 0 }
set_option maxHeartbeats 4000000 in
set_option maxRecDepth 100000 in
theorem c_X8_now (l : Launch) (hst : l.stackTraces = false) (G : GG) (z : Nat) (μ : Mm) (a : Nat) (σ : SS) (n : Nat) (hC9 : RepC G z μ a σ n) (hI : Iv σ n) : Ct l yX8_now wsX8_now rm_X8_now G z [.ref a] μ (rP μ (fun r9 => r9 = σ 23 0)) (nX) := by
  refine ct_of (cc := cX8_now) (maxL := 1) (ret := (some .int)) (own := RX8) (by decide) rfl rfl hst (Nat.le_of_ble_eq_true rfl) ?_
  intro E hLl hnm C R hT
  have in_X8 : ∀ w ∈ u_ws RX8 TX8 10, w ∈ wsX8_now := by decide +kernel
  have hC8 := hC9
  obtain ⟨ld, wy, sp, sl, wl, wp, ch, dr, nS, nW, nD, nL, nV, nC, xs, ys, so, sc, En, S, T, hnC, hX9⟩ := hC9
  have hX8 := hX9
  obtain ⟨hO, hL, hY, hSp, hSl, hWl, hWp, hCh, hDr, hSt, hWk, ⟨n7, n12, n6, n11, n18, n7r, n12r, n18r⟩, hIc⟩ := hX9
  have hnL := hSp.le
  have hnD := hDr.le
  refine x_eq (lv' := [(0, .ref a)]) rfl rfl ?_
  refine x_aload_n C dX8_now_0 rfl 0 rfl ?_
  refine x_get (ci := 9) (Cn := RX8) (T := TX8) (N := 10) (ref := "CairnCipher") C dX8_now_1 in_X8 rfl hO 9 (by decide) (by decide +kernel) rfl rfl ?_
  exact x_iret C R dX8_now_4 (Nat.le_of_ble_eq_true rfl) (Nat.le_of_ble_eq_true rfl) (⟨_, rfl, rfl, rfl⟩)
