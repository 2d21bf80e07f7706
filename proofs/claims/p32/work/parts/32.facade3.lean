abbrev rm_X8_solved : Room := { frames := 7, cells := 1, slots := 6, locals := 110 }
set_option maxHeartbeats 4000000 in
set_option maxRecDepth 100000 in
theorem c_X8_solved (l : Launch) (hst : l.stackTraces = false) (G : GG) (z : Nat) (μ : Mm) (a : Nat) (σ : SS) (n : Nat) (k : Int) (hC9 : RepC G z μ a σ n) (hI : Iv σ n) (hk : -2147483648 ≤ k ∧ k < 2147483648) : Ct l yX8_solved wsX8_solved rm_X8_solved G z [.ref a, .int (zI k)] μ (rP μ (fun r9 => t_wk σ k = 0 ∧ r9 = b_solved σ k.toNat)) (fun En => (En = "java/lang/IndexOutOfBoundsException" ∧ t_wk σ k = 1)) := by
  refine ct_of (cc := cX8_solved) (maxL := 2) (ret := (some .int)) (own := RX8) (by decide) rfl rfl hst (Nat.le_of_ble_eq_true rfl) ?_
  intro E hLl hnm C R hT
  have hC8 := hC9
  obtain ⟨ld, wy, sp, sl, wl, wp, ch, dr, nS, nW, nD, nL, nV, nC, xs, ys, so, sc, En, S, T, hnC, hX9⟩ := hC9
  have hX8 := hX9
  obtain ⟨hO, hL, hY, hSp, hSl, hWl, hWp, hCh, hDr, hSt, hWk, ⟨n7, n12, n6, n11, n18, n7r, n12r, n18r⟩, hIc⟩ := hX9
  have hnL := hSp.le
  have hnD := hDr.le
  refine x_eq (lv' := [(0, .ref a), (1, .int (zI k))]) rfl rfl ?_
  refine x_aload_n C dX8_solved_0 rfl 0 rfl ?_
  refine x_iload_n C dX8_solved_1 rfl 1 rfl ?_
  refine x_callV (n := 1) (ci := 9) (Cn := RX8) (T := TX8) (N := 10) (cc9 := 1) (ss9 := 6) (rest := []) C dX8_solved_2 (c_X8_requireWalker (kxL E) C.st G z μ _ _ _ _ _ _ _ _ _ _ _ _ _ _ _ _ _ _ _ _ _ _ _ k hX8 (by omega)) gX8_solved_X8_requireWalker rfl (by decide +kernel) ⟨(Nat.le_of_ble_eq_true rfl), (Nat.le_of_ble_eq_true rfl)⟩ rfl ⟨_, _, hO⟩ rfl rfl (Nat.le_of_ble_eq_true rfl) rfl rfl ⟨(Nat.le_of_ble_eq_true rfl), (Nat.le_of_ble_eq_true rfl)⟩ (fun En hEn => x_out C R hT (⟨hEn.1, by unfold t_wk; rw [if_neg hEn.2]⟩) (Nat.le_of_ble_eq_true rfl) (Nat.le_of_ble_eq_true rfl)) (fun v1 μ2 hv3 => ?_)
  obtain ⟨r4, hw7, h5, hm6⟩ := hv3
  subst hw7
  rw [hm6]
  obtain ⟨i9, hi9, hi8, hr9⟩ := h5
  have hts : t_wk σ k = 0 := by unfold t_wk; rw [if_pos (by omega)]
  have hWa := hWk i9 (by omega) hi8
  rw [← hr9] at hWa
  refine x_stk (stk' := [.ref r4]) rfl ?_
  refine x_callV (n := 0) (ci := 7) (Cn := RX6) (T := TX6) (N := 9) (cc9 := 1) (ss9 := 6) (rest := []) C dX8_solved_5 (c_X6_solvedCount (kxL E) C.st G z μ _ _ _ _ _ _ _ _ _ _ _  hWa ) gX8_solved_X6_solvedCount rfl (by decide +kernel) ⟨(Nat.le_of_ble_eq_true rfl), (Nat.le_of_ble_eq_true rfl)⟩ rfl hWa.ob rfl rfl (Nat.le_of_ble_eq_true rfl) rfl rfl ⟨(Nat.le_of_ble_eq_true rfl), (Nat.le_of_ble_eq_true rfl)⟩ nX_no (fun v8 μ9 hv10 => ?_)
  obtain ⟨r11, hw14, h12, hm13⟩ := hv10
  subst hw14
  rw [hm13]
  have hb9 := h12
  refine x_stk (stk' := [.int (zI r11)]) rfl ?_
  exact x_iret C R dX8_solved_8 (Nat.le_of_ble_eq_true rfl) (Nat.le_of_ble_eq_true rfl) (⟨_, rfl, ⟨hts, by rw [hb9, hi9, Int.toNat_natCast]; exact hIc.so (by omega) n7 n7r⟩, rfl⟩)
abbrev rm_X8_score : Room := { frames := 7, cells := 1, slots := 6, locals := 110 }
set_option maxHeartbeats 4000000 in
set_option maxRecDepth 100000 in
theorem c_X8_score (l : Launch) (hst : l.stackTraces = false) (G : GG) (z : Nat) (μ : Mm) (a : Nat) (σ : SS) (n : Nat) (k : Int) (hC9 : RepC G z μ a σ n) (hI : Iv σ n) (hk : -2147483648 ≤ k ∧ k < 2147483648) : Ct l yX8_score wsX8_score rm_X8_score G z [.ref a, .int (zI k)] μ (rP μ (fun r9 => t_wk σ k = 0 ∧ r9 = b_score σ k.toNat)) (fun En => (En = "java/lang/IndexOutOfBoundsException" ∧ t_wk σ k = 1)) := by
  refine ct_of (cc := cX8_score) (maxL := 2) (ret := (some .int)) (own := RX8) (by decide) rfl rfl hst (Nat.le_of_ble_eq_true rfl) ?_
  intro E hLl hnm C R hT
  have hC8 := hC9
  obtain ⟨ld, wy, sp, sl, wl, wp, ch, dr, nS, nW, nD, nL, nV, nC, xs, ys, so, sc, En, S, T, hnC, hX9⟩ := hC9
  have hX8 := hX9
  obtain ⟨hO, hL, hY, hSp, hSl, hWl, hWp, hCh, hDr, hSt, hWk, ⟨n7, n12, n6, n11, n18, n7r, n12r, n18r⟩, hIc⟩ := hX9
  have hnL := hSp.le
  have hnD := hDr.le
  refine x_eq (lv' := [(0, .ref a), (1, .int (zI k))]) rfl rfl ?_
  refine x_aload_n C dX8_score_0 rfl 0 rfl ?_
  refine x_iload_n C dX8_score_1 rfl 1 rfl ?_
  refine x_callV (n := 1) (ci := 9) (Cn := RX8) (T := TX8) (N := 10) (cc9 := 1) (ss9 := 6) (rest := []) C dX8_score_2 (c_X8_requireWalker (kxL E) C.st G z μ _ _ _ _ _ _ _ _ _ _ _ _ _ _ _ _ _ _ _ _ _ _ _ k hX8 (by omega)) gX8_score_X8_requireWalker rfl (by decide +kernel) ⟨(Nat.le_of_ble_eq_true rfl), (Nat.le_of_ble_eq_true rfl)⟩ rfl ⟨_, _, hO⟩ rfl rfl (Nat.le_of_ble_eq_true rfl) rfl rfl ⟨(Nat.le_of_ble_eq_true rfl), (Nat.le_of_ble_eq_true rfl)⟩ (fun En hEn => x_out C R hT (⟨hEn.1, by unfold t_wk; rw [if_neg hEn.2]⟩) (Nat.le_of_ble_eq_true rfl) (Nat.le_of_ble_eq_true rfl)) (fun v1 μ2 hv3 => ?_)
  obtain ⟨r4, hw7, h5, hm6⟩ := hv3
  subst hw7
  rw [hm6]
  obtain ⟨i9, hi9, hi8, hr9⟩ := h5
  have hts : t_wk σ k = 0 := by unfold t_wk; rw [if_pos (by omega)]
  have hWa := hWk i9 (by omega) hi8
  rw [← hr9] at hWa
  refine x_stk (stk' := [.ref r4]) rfl ?_
  refine x_callV (n := 0) (ci := 7) (Cn := RX6) (T := TX6) (N := 9) (cc9 := 1) (ss9 := 6) (rest := []) C dX8_score_5 (c_X6_keptScore (kxL E) C.st G z μ _ _ _ _ _ _ _ _ _ _ _  hWa ) gX8_score_X6_keptScore rfl (by decide +kernel) ⟨(Nat.le_of_ble_eq_true rfl), (Nat.le_of_ble_eq_true rfl)⟩ rfl hWa.ob rfl rfl (Nat.le_of_ble_eq_true rfl) rfl rfl ⟨(Nat.le_of_ble_eq_true rfl), (Nat.le_of_ble_eq_true rfl)⟩ nX_no (fun v8 μ9 hv10 => ?_)
  obtain ⟨r11, hw14, h12, hm13⟩ := hv10
  subst hw14
  rw [hm13]
  have hb9 := h12
  refine x_stk (stk' := [.int (zI r11)]) rfl ?_
  exact x_iret C R dX8_score_8 (Nat.le_of_ble_eq_true rfl) (Nat.le_of_ble_eq_true rfl) (⟨_, rfl, ⟨hts, by rw [hb9, hi9, Int.toNat_natCast]; exact hIc.sc (by omega) n7 n7r⟩, rfl⟩)
abbrev rm_X8_scoreAnew : Room := { frames := 7, cells := 1, slots := 6, locals := 110 }
set_option maxHeartbeats 4000000 in
set_option maxRecDepth 100000 in
theorem c_X8_scoreAnew (l : Launch) (hst : l.stackTraces = false) (G : GG) (z : Nat) (μ : Mm) (a : Nat) (σ : SS) (n : Nat) (k : Int) (hC9 : RepC G z μ a σ n) (hI : Iv σ n) (hk : -2147483648 ≤ k ∧ k < 2147483648) : Ct l yX8_scoreAnew wsX8_scoreAnew rm_X8_scoreAnew G z [.ref a, .int (zI k)] μ (rP μ (fun r9 => t_wk σ k = 0 ∧ r9 = b_score σ k.toNat)) (fun En => (En = "java/lang/IndexOutOfBoundsException" ∧ t_wk σ k = 1)) := by
  refine ct_of (cc := cX8_scoreAnew) (maxL := 2) (ret := (some .int)) (own := RX8) (by decide) rfl rfl hst (Nat.le_of_ble_eq_true rfl) ?_
  intro E hLl hnm C R hT
  have in_X8 : ∀ w ∈ u_ws RX8 TX8 10, w ∈ wsX8_scoreAnew := by decide +kernel
  have hC8 := hC9
  obtain ⟨ld, wy, sp, sl, wl, wp, ch, dr, nS, nW, nD, nL, nV, nC, xs, ys, so, sc, En, S, T, hnC, hX9⟩ := hC9
  have hX8 := hX9
  obtain ⟨hO, hL, hY, hSp, hSl, hWl, hWp, hCh, hDr, hSt, hWk, ⟨n7, n12, n6, n11, n18, n7r, n12r, n18r⟩, hIc⟩ := hX9
  have hnL := hSp.le
  have hnD := hDr.le
  refine x_eq (lv' := [(0, .ref a), (1, .int (zI k))]) rfl rfl ?_
  refine x_aload_n C dX8_scoreAnew_0 rfl 0 rfl ?_
  refine x_iload_n C dX8_scoreAnew_1 rfl 1 rfl ?_
  refine x_callV (n := 1) (ci := 9) (Cn := RX8) (T := TX8) (N := 10) (cc9 := 1) (ss9 := 6) (rest := []) C dX8_scoreAnew_2 (c_X8_requireWalker (kxL E) C.st G z μ _ _ _ _ _ _ _ _ _ _ _ _ _ _ _ _ _ _ _ _ _ _ _ k hX8 (by omega)) gX8_scoreAnew_X8_requireWalker rfl (by decide +kernel) ⟨(Nat.le_of_ble_eq_true rfl), (Nat.le_of_ble_eq_true rfl)⟩ rfl ⟨_, _, hO⟩ rfl rfl (Nat.le_of_ble_eq_true rfl) rfl rfl ⟨(Nat.le_of_ble_eq_true rfl), (Nat.le_of_ble_eq_true rfl)⟩ (fun En hEn => x_out C R hT (⟨hEn.1, by unfold t_wk; rw [if_neg hEn.2]⟩) (Nat.le_of_ble_eq_true rfl) (Nat.le_of_ble_eq_true rfl)) (fun v1 μ2 hv3 => ?_)
  obtain ⟨r4, hw7, h5, hm6⟩ := hv3
  subst hw7
  rw [hm6]
  obtain ⟨i9, hi9, hi8, hr9⟩ := h5
  have hts : t_wk σ k = 0 := by unfold t_wk; rw [if_pos (by omega)]
  have hWa := hWk i9 (by omega) hi8
  rw [← hr9] at hWa
  refine x_stk (stk' := [.ref r4]) rfl ?_
  refine x_pop C dX8_scoreAnew_5 rfl ?_
  refine x_aload_n C dX8_scoreAnew_6 rfl 0 rfl ?_
  refine x_get (ci := 9) (Cn := RX8) (T := TX8) (N := 10) (ref := "CairnCipher") C dX8_scoreAnew_7 in_X8 rfl hO 6 (by decide) (by decide +kernel) rfl rfl ?_
  refine x_iload_n C dX8_scoreAnew_10 rfl 1 rfl ?_
  refine x_callV (n := 1) (ci := 1) (Cn := RX0) (T := TX0) (N := 2) (cc9 := 1) (ss9 := 6) (rest := []) C dX8_scoreAnew_11 (c_X0_scoreOf (kxL E) C.st G z μ _ _ _ k hCh (by omega)) gX8_scoreAnew_X0_scoreOf rfl (by decide +kernel) ⟨(Nat.le_of_ble_eq_true rfl), (Nat.le_of_ble_eq_true rfl)⟩ rfl hCh.ob rfl rfl (Nat.le_of_ble_eq_true rfl) rfl rfl ⟨(Nat.le_of_ble_eq_true rfl), (Nat.le_of_ble_eq_true rfl)⟩ nX_no (fun v8 μ9 hv10 => ?_)
  obtain ⟨r11, hw14, h12, hm13⟩ := hv10
  subst hw14
  rw [hm13]
  obtain ⟨P9, hP9, hb9⟩ := h12
  refine x_stk (stk' := [.int (zI r11)]) rfl ?_
  exact x_iret C R dX8_scoreAnew_14 (Nat.le_of_ble_eq_true rfl) (Nat.le_of_ble_eq_true rfl) (⟨_, rfl, ⟨hts, by (rw [hb9, hi9, Int.toNat_natCast]; rw [hi9] at hP9; exact (hIc.anew (by omega) hP9).trans (hIc.sc (by omega) n7 n7r))⟩, rfl⟩)
abbrev rm_X8_placeByAll : Room := { frames := 7, cells := 1, slots := 6, locals := 111 }
set_option maxHeartbeats 4000000 in
set_option maxRecDepth 100000 in
theorem c_X8_placeByAll (l : Launch) (hst : l.stackTraces = false) (G : GG) (z : Nat) (μ : Mm) (a : Nat) (σ : SS) (n : Nat) (k : Int) (hC9 : RepC G z μ a σ n) (hI : Iv σ n) (hk : -2147483648 ≤ k ∧ k < 2147483648) : Ct l yX8_placeByAll wsX8_placeByAll rm_X8_placeByAll G z [.ref a, .int (zI k)] μ (rP μ (fun r9 => t_st σ k = 0 ∧ r9 = uq (fitb σ (k.toNat + 1) (-1)))) (fun En => (En = "java/lang/IndexOutOfBoundsException" ∧ t_st σ k = 1)) := by
  refine ct_of (cc := cX8_placeByAll) (maxL := 2) (ret := (some .int)) (own := RX8) (by decide) rfl rfl hst (Nat.le_of_ble_eq_true rfl) ?_
  intro E hLl hnm C R hT
  have in_X8 : ∀ w ∈ u_ws RX8 TX8 10, w ∈ wsX8_placeByAll := by decide +kernel
  have hC8 := hC9
  obtain ⟨ld, wy, sp, sl, wl, wp, ch, dr, nS, nW, nD, nL, nV, nC, xs, ys, so, sc, En, S, T, hnC, hX9⟩ := hC9
  have hX8 := hX9
  obtain ⟨hO, hL, hY, hSp, hSl, hWl, hWp, hCh, hDr, hSt, hWk, ⟨n7, n12, n6, n11, n18, n7r, n12r, n18r⟩, hIc⟩ := hX9
  have hnL := hSp.le
  have hnD := hDr.le
  refine x_eq (lv' := [(0, .ref a), (1, .int (zI k))]) rfl rfl ?_
  refine x_aload_n C dX8_placeByAll_0 rfl 0 rfl ?_
  refine x_iload_n C dX8_placeByAll_1 rfl 1 rfl ?_
  refine x_callV (n := 1) (ci := 9) (Cn := RX8) (T := TX8) (N := 10) (cc9 := 1) (ss9 := 6) (rest := []) C dX8_placeByAll_2 (c_X8_requireStage (kxL E) C.st G z μ _ _ _ _ _ _ _ _ _ _ _ _ _ _ _ _ _ _ _ _ _ _ _ k hX8 (by omega)) gX8_placeByAll_X8_requireStage rfl (by decide +kernel) ⟨(Nat.le_of_ble_eq_true rfl), (Nat.le_of_ble_eq_true rfl)⟩ rfl ⟨_, _, hO⟩ rfl rfl (Nat.le_of_ble_eq_true rfl) rfl rfl ⟨(Nat.le_of_ble_eq_true rfl), (Nat.le_of_ble_eq_true rfl)⟩ (fun En hEn => x_out C R hT (⟨hEn.1, by unfold t_st; rw [if_neg hEn.2]⟩) (Nat.le_of_ble_eq_true rfl) (Nat.le_of_ble_eq_true rfl)) (fun v1 μ2 hv3 => ?_)
  obtain ⟨r4, hw7, h5, hm6⟩ := hv3
  subst hw7
  rw [hm6]
  obtain ⟨i9, hi9, hi8, hr9⟩ := h5
  have hts : t_st σ k = 0 := by unfold t_st; rw [if_pos (by omega)]
  obtain ⟨W9, hW9, hSg⟩ := hSt i9 (by omega) hi8
  rw [← hr9] at hSg
  refine x_stk (stk' := [.ref r4]) rfl ?_
  refine x_callV (n := 0) (ci := 5) (Cn := RX4) (T := TX4) (N := 4) (cc9 := 1) (ss9 := 6) (rest := []) C dX8_placeByAll_5 (c_X4_hints (kxL E) C.st G z μ _ _ _ _ _ _ _ _ _  hSg ) gX8_placeByAll_X4_hints rfl (by decide +kernel) ⟨(Nat.le_of_ble_eq_true rfl), (Nat.le_of_ble_eq_true rfl)⟩ rfl hSg.ob rfl rfl (Nat.le_of_ble_eq_true rfl) rfl rfl ⟨(Nat.le_of_ble_eq_true rfl), (Nat.le_of_ble_eq_true rfl)⟩ nX_no (fun v8 μ9 hv10 => ?_)
  obtain ⟨r11, hw14, h12, hm13⟩ := hv10
  subst hw14
  rw [hm13]
  have hHg := h12
  refine x_stk (stk' := [.ref r11]) rfl ?_
  refine x_aload_n C dX8_placeByAll_8 rfl 0 rfl ?_
  refine x_get (ci := 9) (Cn := RX8) (T := TX8) (N := 10) (ref := "CairnCipher") C dX8_placeByAll_9 in_X8 rfl hO 0 (by decide) (by decide +kernel) rfl rfl ?_
  refine x_callV (n := 1) (ci := 3) (Cn := RX2) (T := TX2) (N := 1) (cc9 := 1) (ss9 := 6) (rest := []) C dX8_placeByAll_12 (c_X2_placeAskedOf (kxL E) C.st G z μ _ _ _ _ _ _ _ hHg hL) gX8_placeByAll_X2_placeAskedOf rfl (by decide +kernel) ⟨(Nat.le_of_ble_eq_true rfl), (Nat.le_of_ble_eq_true rfl)⟩ rfl hHg.ob rfl rfl (Nat.le_of_ble_eq_true rfl) rfl rfl ⟨(Nat.le_of_ble_eq_true rfl), (Nat.le_of_ble_eq_true rfl)⟩ nX_no (fun v15 μ16 hv17 => ?_)
  obtain ⟨r18, hw21, h19, hm20⟩ := hv17
  subst hw21
  rw [hm20]
  have hb9 := h19
  refine x_stk (stk' := [.int (zI r18)]) rfl ?_
  exact x_iret C R dX8_placeByAll_15 (Nat.le_of_ble_eq_true rfl) (Nat.le_of_ble_eq_true rfl) (⟨_, rfl, ⟨hts, by (rw [hi9, Int.toNat_natCast]; exact hb9.one (UQ_uq _))⟩, rfl⟩)
abbrev rm_X8_send : Room := { frames := 7, cells := 2, slots := 12, locals := 114 }
set_option maxHeartbeats 4000000 in
set_option maxRecDepth 100000 in
theorem c_X8_send (l : Launch) (hst : l.stackTraces = false) (G : GG) (z : Nat) (μ : Mm) (a : Nat) (σ : SS) (n : Nat) (k q : Int) (hC9 : RepC G z μ a σ n) (hI : Iv σ n) (hk : -2147483648 ≤ k ∧ k < 2147483648) (hq : -2147483648 ≤ q ∧ q < 2147483648) : Ct l yX8_send wsX8_send rm_X8_send G z [.ref a, .int (zI k), .int (zI q)] μ (rS (fun r9 μ' => (t_send σ k q = 0 ∧ r9 = b_way σ (σ 14 k.toNat) q ∧ RepC G z μ' a (n_send σ k q) n) ∧ Fr 0 2999 μ μ')) (fun En => (En = "java/lang/IndexOutOfBoundsException" ∧ t_send σ k q = 1)) := by
  refine ct_of (cc := cX8_send) (maxL := 4) (ret := (some .int)) (own := RX8) (by decide) rfl rfl hst (Nat.le_of_ble_eq_true rfl) ?_
  intro E hLl hnm C R hT
  have in_X8 : ∀ w ∈ u_ws RX8 TX8 10, w ∈ wsX8_send := by decide +kernel
  have hC8 := hC9
  obtain ⟨ld, wy, sp, sl, wl, wp, ch, dr, nS, nW, nD, nL, nV, nC, xs, ys, so, sc, En, S, T, hnC, hX9⟩ := hC9
  have hX8 := hX9
  obtain ⟨hO, hL, hY, hSp, hSl, hWl, hWp, hCh, hDr, hSt, hWk, ⟨n7, n12, n6, n11, n18, n7r, n12r, n18r⟩, hIc⟩ := hX9
  have hnL := hSp.le
  have hnD := hDr.le
  have hFr : Fr 0 2999 μ μ := Fr.rf
  refine x_eq (lv' := [(0, .ref a), (1, .int (zI k)), (2, .int (zI q))]) rfl rfl ?_
  refine x_aload_n C dX8_send_0 rfl 0 rfl ?_
  refine x_iload_n C dX8_send_1 rfl 1 rfl ?_
  refine x_callV (n := 1) (ci := 9) (Cn := RX8) (T := TX8) (N := 10) (cc9 := 1) (ss9 := 6) (rest := []) C dX8_send_2 (c_X8_requireWalker (kxL E) C.st G z μ _ _ _ _ _ _ _ _ _ _ _ _ _ _ _ _ _ _ _ _ _ _ _ k hX8 (by omega)) gX8_send_X8_requireWalker rfl (by decide +kernel) ⟨(Nat.le_of_ble_eq_true rfl), (Nat.le_of_ble_eq_true rfl)⟩ rfl ⟨_, _, hO⟩ rfl rfl (Nat.le_of_ble_eq_true rfl) rfl rfl ⟨(Nat.le_of_ble_eq_true rfl), (Nat.le_of_ble_eq_true rfl)⟩ (fun En hEn => x_out C R hT (⟨hEn.1, by unfold t_send; rw [if_neg (fun w => hEn.2 w.1)]⟩) (Nat.le_of_ble_eq_true rfl) (Nat.le_of_ble_eq_true rfl)) (fun v1 μ2 hv3 => ?_)
  obtain ⟨r4, hw7, h5, hm6⟩ := hv3
  subst hw7
  rw [hm6]
  obtain ⟨i9, hi9, hi8, hr9⟩ := h5
  have hWa := hWk i9 (by omega) hi8
  rw [← hr9] at hWa
  have hWb := hWa.rg
  refine x_stk (stk' := [.ref r4]) rfl ?_
  refine x_astore_n (lv' := [(3, .ref r4), (0, .ref a), (1, .int (zI k)), (2, .int (zI q))]) C dX8_send_5 rfl (by decide) rfl ?_
  refine x_iload_n C dX8_send_6 rfl 3 rfl ?_
  refine x_callS (n := 1) (cc9 := 2) (ss9 := 12) (rest := []) C dX8_send_7 (c_X8_requirePlace (kxL E) C.st G z μ q (by omega)) gX8_send_X8_requirePlace rfl (by decide +kernel) ⟨(Nat.le_of_ble_eq_true rfl), (Nat.le_of_ble_eq_true rfl)⟩ rfl rfl (Nat.le_of_ble_eq_true rfl) rfl rfl ⟨(Nat.le_of_ble_eq_true rfl), (Nat.le_of_ble_eq_true rfl)⟩ (fun En hEn => x_out C R hT (⟨hEn.1, by unfold t_send; rw [if_neg (fun w => hEn.2 w.2)]⟩) (Nat.le_of_ble_eq_true rfl) (Nat.le_of_ble_eq_true rfl)) (fun v8 μ9 hv10 => ?_)
  obtain ⟨hw14, h12, hm13⟩ := hv10
  subst hw14
  rw [hm13]
  refine x_stk (stk' := []) rfl ?_
  refine x_aload_n C dX8_send_10 rfl 0 rfl ?_
  refine x_iload_n C dX8_send_11 rfl 3 rfl ?_
  refine x_callV (n := 1) (ci := 7) (Cn := RX6) (T := TX6) (N := 9) (cc9 := 2) (ss9 := 12) (rest := []) C dX8_send_12 (c_X6_aimAt (kxL E) C.st G z μ _ _ _ _ _ _ _ _ _ _ _ q hWa (by omega)) gX8_send_X6_aimAt rfl (by decide +kernel) ⟨(Nat.le_of_ble_eq_true rfl), (Nat.le_of_ble_eq_true rfl)⟩ rfl hWa.ob rfl rfl (Nat.le_of_ble_eq_true rfl) rfl rfl ⟨(Nat.le_of_ble_eq_true rfl), (Nat.le_of_ble_eq_true rfl)⟩ nX_no (fun v15 μ16 hv17 => ?_)
  obtain ⟨hw21, h19⟩ := hv17
  subst hw21
  obtain ⟨⟨go9, hW9, hgo9⟩, hF9⟩ := h19
  have hF22 := hF9
  have hO := hF22.ob hO
  have hL : LandR G μ16 ld (σ 0) (σ 1) := hF22.land hL
  have hY : WaysR G μ16 wy S T := hF22.ways hY
  have hSp : TextR G μ16 sp 7 nL (lw σ 0) := hF22.text hSp
  have hSl : ListR G z μ16 sl 9 nS xs := hF22.list hSl
  have hWl : ListR G z μ16 wl 11 nW ys := hF22.list hWl
  have hWp := hF22.ai hWp
  have hCh : ChronR G μ16 ch nC En := hF22.chron hCh
  have hDr : HintsR G z μ16 dr (100 + 100 * nS) nD (dq σ 0) (σ 0) := (by first | exact hF22.hints hDr | exact hF22.hintsN hDr)
  have hSt : StF G z μ16 xs 0 nS σ (σ 0) (σ 8) (σ 9) := hF22.stf hSt
  have hFr : Fr 0 2999 μ μ16 := hFr.tr hF22
  rw [hr9] at hW9
  have hWk : WkF G μ16 ys 0 nW (n_send σ k q) so sc := hWk.ch (w := i9) hF9 (by omega) (by (show WalkerR G _ _ _ _ _ (wr (σ 15) k.toNat _ i9) _ _ _ _ _ _; rw [hi9, Int.toNat_natCast, wr_at, show (if σ 16 i9 = -1 ∧ σ 14 i9 = q then (-1 : Int) else q) = go9 by (split <;> omega)]; exact hW9)) (fun v hv hne => ⟨rfl, rfl, by (show wr (σ 15) k.toNat _ v = _; exact wr_ne (by omega)), rfl, rfl, rfl, rfl, fun s _ => ⟨rfl, rfl⟩⟩)
  have hWa := hWk i9 (by omega) hi8
  rw [← hr9] at hWa
  refine x_stk (stk' := []) rfl ?_
  refine x_aload_n C dX8_send_15 rfl 1 rfl ?_
  refine x_get (ci := 9) (Cn := RX8) (T := TX8) (N := 10) (ref := "CairnCipher") C dX8_send_16 in_X8 rfl hO 1 (by decide) (by decide +kernel) rfl rfl ?_
  refine x_iload_n C dX8_send_19 rfl 3 rfl ?_
  refine x_aload_n C dX8_send_20 rfl 1 rfl ?_
  refine x_get (ci := 9) (Cn := RX8) (T := TX8) (N := 10) (ref := "CairnCipher") C dX8_send_21 in_X8 rfl hO 0 (by decide) (by decide +kernel) rfl rfl ?_
  obtain ⟨g9, hg9⟩ : ∃ g9 : Nat, q = (g9 : Int) := ⟨q.toNat, by omega⟩
  refine x_stk (stk' := [.ref ld, .int (zI (g9 : Int)), .ref wy]) (by rw [hg9]) ?_
  refine x_callV (n := 2) (ci := 8) (Cn := RX7) (T := TX7) (N := 2) (cc9 := 2) (ss9 := 12) (rest := []) C dX8_send_24 (c_X7_measureNearestFirst (kxL E) C.st G z μ16 _ _ _ _ _ _ g9 hY hL (by omega)) gX8_send_X7_measureNearestFirst rfl (by decide +kernel) ⟨(Nat.le_of_ble_eq_true rfl), (Nat.le_of_ble_eq_true rfl)⟩ rfl hY.ob rfl rfl (Nat.le_of_ble_eq_true rfl) rfl rfl ⟨(Nat.le_of_ble_eq_true rfl), (Nat.le_of_ble_eq_true rfl)⟩ nX_no (fun v23 μ24 hv25 => ?_)
  obtain ⟨hw29, h27⟩ := hv25
  subst hw29
  obtain ⟨⟨S9, T9, hW9, hD9⟩, hF9⟩ := h27
  have hF30 := hF9
  have hO := hF30.ob hO
  have hL : LandR G μ24 ld (σ 0) (σ 1) := hF30.land hL
  have hSp : TextR G μ24 sp 7 nL (lw σ 0) := hF30.text hSp
  have hSl : ListR G z μ24 sl 9 nS xs := hF30.list hSl
  have hWl : ListR G z μ24 wl 11 nW ys := hF30.list hWl
  have hWp := hF30.ai hWp
  have hCh : ChronR G μ24 ch nC En := hF30.chron hCh
  have hDr : HintsR G z μ24 dr (100 + 100 * nS) nD (dq σ 0) (σ 0) := (by first | exact hF30.hints hDr | exact hF30.hintsN hDr)
  have hSt : StF G z μ24 xs 0 nS σ (σ 0) (σ 8) (σ 9) := hF30.stf hSt
  have hWk : WkF G μ24 ys 0 nW (n_send σ k q) so sc := hF30.wkf hWk
  have hWa : WalkerR G μ24 r4 (2000 + 10 * i9) (σ 13 i9) (σ 14 i9) (n_send σ k q 15 i9) (σ 16 i9) (σ 17 i9) (so i9) (sc i9) (fun s => σ 22 (6 * i9 + s)) (fun s => σ 21 (6 * i9 + s)) := hF30.walker hWa
  have hFr : Fr 0 2999 μ μ24 := hFr.tr hF30
  have hD8 := dD_eq (σ := σ) (by omega) hD9 (p := (σ 14 i9).toNat) (by omega)
  refine x_stk (stk' := []) rfl ?_
  refine x_aload_n C dX8_send_27 rfl 1 rfl ?_
  refine x_get (ci := 9) (Cn := RX8) (T := TX8) (N := 10) (ref := "CairnCipher") C dX8_send_28 in_X8 rfl hO 1 (by decide) (by decide +kernel) rfl rfl ?_
  refine x_aload_n C dX8_send_31 rfl 0 rfl ?_
  refine x_callV (n := 0) (ci := 7) (Cn := RX6) (T := TX6) (N := 9) (cc9 := 2) (ss9 := 12) (rest := [.ref wy]) C dX8_send_32 (c_X6_standsAt (kxL E) C.st G z μ24 _ _ _ _ _ _ _ _ _ _ _ hWa) gX8_send_X6_standsAt rfl (by decide +kernel) ⟨(Nat.le_of_ble_eq_true rfl), (Nat.le_of_ble_eq_true rfl)⟩ rfl hWa.ob rfl rfl (Nat.le_of_ble_eq_true rfl) rfl rfl ⟨(Nat.le_of_ble_eq_true rfl), (Nat.le_of_ble_eq_true rfl)⟩ nX_no (fun v31 μ32 hv33 => ?_)
  obtain ⟨r34, hw37, h35, hm36⟩ := hv33
  subst hw37
  rw [hm36]
  have hp9 := h35
  refine x_stk (stk' := [.int (zI r34), .ref wy]) rfl ?_
  refine x_callV (n := 1) (ci := 8) (Cn := RX7) (T := TX7) (N := 2) (cc9 := 2) (ss9 := 12) (rest := []) C dX8_send_35 (c_X7_sumFrom (kxL E) C.st G z μ24 _ _ _ r34 hW9 (by omega)) gX8_send_X7_sumFrom rfl (by decide +kernel) ⟨(Nat.le_of_ble_eq_true rfl), (Nat.le_of_ble_eq_true rfl)⟩ rfl hW9.ob rfl rfl (Nat.le_of_ble_eq_true rfl) rfl rfl ⟨(Nat.le_of_ble_eq_true rfl), (Nat.le_of_ble_eq_true rfl)⟩ nX_no (fun v38 μ39 hv40 => ?_)
  obtain ⟨r41, hw44, h42, hm43⟩ := hv40
  subst hw44
  rw [hm43]
  have hb9 := h42
  refine x_stk (stk' := [.int (zI r41)]) rfl ?_
  exact x_iret C R dX8_send_38 (Nat.le_of_ble_eq_true rfl) (Nat.le_of_ble_eq_true rfl) (⟨_, rfl, ⟨by unfold t_send; rw [if_pos (by omega)], by (unfold b_way; rw [hi9, Int.toNat_natCast, hg9, Int.toNat_natCast, ← hD8, ← hp9]; split <;> omega), ⟨ld, wy, sp, sl, wl, wp, ch, dr, nS, nW, nD, nL, nV, nC, xs, ys, so, sc, En, S9, T9, hnC, hO, hL, hW9, hSp, hSl, hWl, hWp, hCh, hDr, hSt, hWk, ⟨n7, n12, n6, n11, n18, n7r, n12r, n18r⟩, hIc⟩⟩, hFr⟩)
